/-! the reference: what hangs together, what is live, what the log tells -/
section MH
variable {a : Nat} {M : Mm} {n k q : Nat}
abbrev psS (S : Sm) (k : Nat) (c : Nat → Bool) : (Nat → Bool) → (Nat → Bool) := ps (uS S) (vS S) c k
/-- a section hangs together with one of a set -/
def lvb (S : Sm) (k : Nat) (c on : Nat → Bool) (s : Nat) : Bool := decide (fb_ct (fun x => its (psS S k c) 10 (fun y => y == s) x && on x) 10 ≠ 0)
theorem lvb_iff {S : Sm} (W : Wf S n k q) (c on : Nat → Bool) {s : Nat} (hs : s < n) : lvb S k c on s = true ↔ ∃ x, x < n ∧ on x = true ∧ cn k (uS S) (vS S) c s x := by
  obtain ⟨⟨-, hn, e1, hk16, -⟩, WI, -⟩ := W
  have hb : ∀ i, i < k → uS S i < n ∧ vS S i < n := fun i hi => ⟨(WI i hi).1.2, (WI i hi).2.1.2⟩
  have hi : ∀ x, its (psS S k c) 10 (fun y => y == s) x = true ↔ cn k (uS S) (vS S) c s x := fun x => by
    rw [its_iff hb (T := fun y => y == s) (fun y hy => by simp at hy; omega) (by omega)]
    constructor
    · rintro ⟨y, h1, h2⟩
      simp at h1
      rw [← h1]; exact h2
    · intro h
      exact ⟨s, by simp, h⟩
  unfold lvb
  rw [decide_eq_true_eq]
  constructor
  · intro h
    obtain ⟨x, h1⟩ := Classical.not_forall.mp (fun q => h (fb_ct_zero.mpr q))
    obtain ⟨hx, h1⟩ := Classical.not_imp.mp h1
    have h2 : (its (psS S k c) 10 (fun y => y == s) x && on x) = true := by
      cases hq : its (psS S k c) 10 (fun y => y == s) x && on x
      · exact absurd hq h1
      · rfl
    rw [Bool.and_eq_true, hi] at h2
    exact ⟨x, cn_lt hb h2.1 hs, h2.2, h2.1⟩
  · rintro ⟨x, h1, h2, h3⟩ h
    have := (fb_ct_zero.mp h) x (by omega)
    rw [h2, (hi x).mpr h3] at this
    cases this
/-- the feeders that are on -/
def onx (S : Sm) (n : Nat) (s : Nat) : Bool := decide (s < n) && onS S s
def lvS (S : Sm) (n k : Nat) (s : Nat) : Bool := decide (s < n) && lvb S k (cS S) (onx S n) s
/-- the kind of the latest of two steps there, among the first j of the log -/
def tdS (S : Sm) (x y p : Nat) : Nat → Int32
  | 0 => -nI 1
  | j + 1 => if (kS S j = x ∨ kS S j = y) ∧ pS S j = p then nI (kS S j) else tdS S x y p j
/-- an isolator's state, a feeder's, as the first j steps of the log tell it -/
def caS (S : Sm) (i : Nat) : Nat → Bool
  | 0 => wS S i
  | j + 1 => if kS S j = 2 ∧ pS S j = i then false else if kS S j = 3 ∧ pS S j = i then true else caS S i j
def oaS (S : Sm) (s : Nat) : Nat → Bool
  | 0 => bS S 8 s
  | j + 1 => if kS S j = 4 ∧ pS S j = s then false else if kS S j = 5 ∧ pS S j = s then true else oaS S s j
theorem td_ca (S : Sm) (i : Nat) : ∀ j, (tdS S 2 3 i j = -nI 1 ∧ caS S i j = wS S i) ∨ (tdS S 2 3 i j = nI 2 ∧ caS S i j = false) ∨ (tdS S 2 3 i j = nI 3 ∧ caS S i j = true)
  | 0 => Or.inl ⟨rfl, rfl⟩
  | j + 1 => by
    simp only [tdS, caS]
    by_cases g1 : kS S j = 2 <;> by_cases g2 : kS S j = 3 <;> by_cases g3 : pS S j = i <;> simp [g1, g2, g3] <;> exact td_ca S i j
theorem td_oa (S : Sm) (i : Nat) : ∀ j, (tdS S 4 5 i j = -nI 1 ∧ oaS S i j = bS S 8 i) ∨ (tdS S 4 5 i j = nI 4 ∧ oaS S i j = false) ∨ (tdS S 4 5 i j = nI 5 ∧ oaS S i j = true)
  | 0 => Or.inl ⟨rfl, rfl⟩
  | j + 1 => by
    simp only [tdS, oaS]
    by_cases g1 : kS S j = 4 <;> by_cases g2 : kS S j = 5 <;> by_cases g3 : pS S j = i <;> simp [g1, g2, g3] <;> exact td_oa S i j
theorem m1_lt : (-nI 1 < nI 0) = True := by simp; decide
def laS (S : Sm) (n k q : Nat) : Nat → Bool := its (psS S k (fun i => caS S i q)) 10 (fun s => decide (s < n) && oaS S s q)
end MH

