/-! the class: what it is like in a state, its answers and its changes -/
/-- the clock and the times that gangs were promised -/
def Tm (S : Sm) : Prop := (∃ j, j ≤ 100000 ∧ S 3 = nI j) ∧ ∀ s, s < 10 → bS S 4 s = true → ∃ j, j ≤ 100000 ∧ aO S s 6 = nI j
theorem Tm.of {S S' : Sm} (h : Tm S) (e3 : S' 3 = S 3) (e : ∀ s, s < 10 → aO S' s 4 = aO S s 4 ∧ aO S' s 6 = aO S s 6) : Tm S' :=
  ⟨by rw [e3]; exact h.1, fun s hs hb => by
    rw [(e s hs).2]
    refine h.2 s hs ?_
    unfold bS at hb ⊢
    rw [← (e s hs).1]
    exact hb⟩
theorem Tm.c {S S' : Sm} (h : Tm S) (e : ∀ j, j < 233 → S' j = S j) : Tm S' := h.of (e 3 (by omega)) fun s hs => ⟨e _ (by omega), e _ (by omega)⟩
theorem nI_ltI_eq {a b : Nat} (h : nI a = nI b) (ha : a < 1000) (hb : b < 1000) : a = b := (n_eq (by omega) (by omega)).mp h
def nn (S : Sm) : Nat := ix (S 0)
def kn (S : Sm) : Nat := ix (S 1)
def qn (S : Sm) : Nat := ix (S 5)
def RS (M : Mm) (w : Nat) (S : Sm) : Prop := RW M w S (nn S) (kn S) (qn S)
theorem Wf.n_ {S : Sm} {n k q : Nat} (W : Wf S n k q) : nn S = n ∧ kn S = k ∧ qn S = q := by
  obtain ⟨⟨e0, hn, e1, hk, e5, hq⟩, -⟩ := W
  unfold nn kn qn
  rw [e0, e1, e5]
  exact ⟨n_ix (by omega), n_ix (by omega), n_ix (by omega)⟩
theorem RW.rs {M : Mm} {w : Nat} {S : Sm} {n k q : Nat} (h : RW M w S n k q) : RS M w S := by
  obtain ⟨e1, e2, e3⟩ := h.1.n_
  unfold RS
  rw [e1, e2, e3]
  exact h
/-- the states kept, the latest first -/
def hT (h : List Sm) (i : Nat) : Sm := h.getD (h.length - 1 - i) (fun _ => 0)
def push (S : Sm) (h : List Sm) : List Sm := (S :: h).take 5
def P (M : Mm) (X : Nat) (S : Sm) (h : List Sm) (t : List Int32) : Prop :=
  RS M (X + 1) S ∧ Hs M (X + 33) (hT h) h.length ∧ (t.length ≤ 60 ∧ M (X + 195) 0 = nI t.length ∧ ∀ j, j < t.length → M (X + 196) j = t.getD j 0) ∧ Tm S ∧ ∀ S' ∈ h, Tm S'
def Fr (X : Nat) (M' M : Mm) : Prop := ∀ b, (b < X ∨ X + 233 ≤ b) → M' b = M b
theorem Fr.rf {X : Nat} {M : Mm} : Fr X M M := fun _ _ => rfl
theorem Fr.tr {X : Nat} {M M1 M2 : Mm} (h : Fr X M2 M1) (g : Fr X M1 M) : Fr X M2 M := fun b hb => by rw [h b hb, g b hb]
theorem push_len (S : Sm) {h : List Sm} (hh : h.length ≤ 5) : (push S h).length = dk h.length + 1 := by
  unfold push dk
  rw [List.length_take, List.length_cons]
  split <;> omega
theorem push_hT (S : Sm) {h : List Sm} (hh : h.length ≤ 5) {i : Nat} (hi : i < dk h.length + 1) : hT (push S h) i = if i = dk h.length then S else hT h (if h.length = 5 then i + 1 else i) := by
  have hd : dk h.length = if h.length = 5 then 4 else h.length := rfl
  unfold hT
  rw [push_len S hh]
  unfold push
  rw [List.getD_eq_getElem?_getD, List.getD_eq_getElem?_getD, List.getElem?_take]
  by_cases e : i = dk h.length
  · rw [if_pos e, if_pos (by omega), show dk h.length + 1 - 1 - i = 0 by omega]
    rfl
  · rw [if_neg e]
    by_cases e5 : h.length = 5
    · rw [if_pos e5] at hd ⊢
      rw [if_pos (by omega), show dk h.length + 1 - 1 - i = (h.length - 1 - (i + 1)) + 1 by omega, List.getElem?_cons_succ]
    · rw [if_neg e5] at hd ⊢
      rw [if_pos (by omega), show dk h.length + 1 - 1 - i = (h.length - 1 - i) + 1 by omega, List.getElem?_cons_succ]
section PP
variable {M : Mm} {X : Nat} {S : Sm} {h : List Sm} {t : List Int32}
theorem P.len (H : P M X S h t) : h.length ≤ 5 := H.2.1.1.2
theorem P.keep {M2 : Mm} (H : P M X S h t) (e1 : ∀ b, (X + 1 < b ∧ b < X + 23 ∨ X + 33 ≤ b ∧ b < X + 195) → M2 b = M b) (e2 : M2 (X + 195) 0 = M (X + 195) 0) (e3 : M2 (X + 196) = M (X + 196)) : P M2 X S h t := by
  obtain ⟨h1, h3, ⟨h4, h5, h6⟩, hT, hTs⟩ := H
  exact ⟨h1.kept fun b b1 b2 => e1 b (Or.inl (by omega)), h3.kept fun b b1 b2 => e1 b (Or.inr (by omega)), ⟨h4, by rw [e2, h5], fun j hj => by rw [e3]; exact h6 j hj⟩, hT, hTs⟩
theorem P.scr {M2 : Mm} (H : P M X S h t) (g : Scr (X + 1) M2 M) : P M2 X S h t :=
  H.keep (fun b hb => g b (by omega)) (by rw [g _ (by omega)]) (g _ (by omega))
theorem Scr.fr {M2 : Mm} (g : Scr (X + 1) M2 M) : Fr X M2 M := fun b hb => g b (by omega)
/-- the state before a change, kept -/
theorem keepP (H : P M X S h t) : ∃ M1 : Mm, f_X0_keep (X + 33) (X + 1) M = some (nI 0, M1) ∧ (∀ b, (b < X + 33 ∨ X + 195 ≤ b) → M1 b = M b) ∧
    ∀ (M' : Mm) (S' : Sm) (n' k' q' : Nat), (∀ b, X + 33 ≤ b → b < X + 195 → M' b = M1 b) → RW M' (X + 1) S' n' k' q' → Tm S' → M' (X + 195) 0 = M (X + 195) 0 → M' (X + 196) = M (X + 196) → P M' X S' (push S h) t := by
  obtain ⟨h1, h3, ⟨h4, h5, h6⟩, hT_, hTs⟩ := H
  have hd := h3.1.2
  obtain ⟨M1, p1, p2, p3⟩ := keep_ok h3 (Or.inl (by omega)) h1
  refine ⟨M1, p1, fun b hb => p3 b (by omega), fun M' S' n' k' q' e1 e2 e3 e4 e5 => ⟨e2.rs, ?_, ⟨h4, by rw [e4, h5], fun j hj => by rw [e5]; exact h6 j hj⟩, e3, fun S'' hS => ?_⟩⟩
  · rw [push_len S hd]
    refine (p2.kept fun b b1 b2 => e1 b b1 (by omega)).c fun i hi j hj => ?_
    rw [push_hT S hd hi]
  · have := List.mem_of_mem_take hS
    rcases List.mem_cons.mp this with e | e
    · rw [e]; exact hT_
    · exact hTs _ e
/-- a change of the wires alone -/
theorem mutP (H : P M X S h t) : ∃ M1 : Mm, f_X0_keep (X + 33) (X + 1) M = some (nI 0, M1) ∧ (∀ b, (b < X + 33 ∨ X + 195 ≤ b) → M1 b = M b) ∧
    ∀ (M2 : Mm) (S' : Sm) (n' k' q' : Nat), (∀ b, (b < X + 1 ∨ X + 33 ≤ b) → M2 b = M1 b) → RW M2 (X + 1) S' n' k' q' → Tm S' → P M2 X S' (push S h) t ∧ Fr X M2 M := by
  obtain ⟨M1, k1, k2, k3⟩ := keepP H
  refine ⟨M1, k1, k2, fun M2 S' n' k' q' f2 hW hT => ⟨k3 M2 S' n' k' q' (fun b b1 b2 => f2 b (by omega)) hW hT (by rw [f2 _ (by omega), k2 _ (by omega)]) (by rw [f2 _ (by omega), k2 _ (by omega)]), fun b hb => by rw [f2 b (by omega), k2 b (by omega)]⟩⟩
end PP
