/-! isolators that come -/
section S5
variable {M : Mm} {X m n k q : Nat} {S : Sm}
theorem lvS_iff (W : Wf S n k q) {s : Nat} (hs : s < n) : lvS S n k s = true ↔ ∃ x, x < n ∧ onx S n x = true ∧ cn k (uS S) (vS S) (cS S) s x := by
  unfold lvS
  rw [Bool.and_eq_true, lvb_iff W _ _ hs]
  simp [hs]
theorem lv_cn (W : Wf S n k q) {s t : Nat} (hs : s < n) (ht : t < n) (h : cn k (uS S) (vS S) (cS S) s t) (hl : lvS S n k s = true) : lvS S n k t = true := by
  obtain ⟨x, h1, h2, h3⟩ := (lvS_iff W hs).mp hl
  exact (lvS_iff W ht).mpr ⟨x, h1, h2, cn_tr (cn_sy h) h3⟩
theorem an_z {A B : Nat → Bool} {j : Nat} : anB S n A B j = false ↔ ∀ s, s < 10 → ¬ (A s = true ∧ B s = false ∧ s < n ∧ nI 0 < aO S s j) := by
  unfold anB
  rw [decide_eq_false_iff_not, Decidable.not_not, fb_ct_zero]
  constructor
  · intro h s hs ⟨h1, h2, h3, h4⟩
    have := h s hs
    rw [h1, h2] at this
    simp [h3, h4] at this
  · intro h s hs
    have := h s hs
    cases hA : A s
    · rfl
    · cases hB : B s
      · by_cases h3 : s < n
        · by_cases h4 : nI 0 < aO S s j
          · exact absurd ⟨hA, hB, h3, h4⟩ this
          · simp [h4]
        · simp [h3]
      · rfl
theorem ag_z {A B : Nat → Bool} : agS S n B A = 0 ↔ anB S n A B 3 = false ∧ anB S n A B 7 = false := by
  unfold agS
  cases anB S n A B 3 <;> cases anB S n A B 7 <;> simp
def jnB (S : Sm) (x y : Nat) : Bool := decide (fb_ct (enS S (nn S) (kn S) x y) (nn S) ≠ 0)
def oIs (S : Sm) (x y : Int32) : Int32 × Option Sm :=
  if (secB S x && (secB S y && !decide (x = y))) = true then
    (if jnB S (ix x) (ix y) = true then (-2, none) else if kn S = 16 then (-3, none) else (nI (kn S), some (niS S (kn S) (ix x) (ix y))))
  else (-1, none)
variable {h : List Sm} {t : List Int32}
theorem t_isolator (H : P M X S h t) (x y : Int32) : Chg X S h t (f_X8_isolator X M x y) M (oIs S x y) := by
  have h1 := H.1
  have hn := h1.nlow
  have hk := h1.klow
  have hc : M (X + 1 + 1) 1 = nI (kn S) := h1.k0
  unfold oIs
  by_cases g : secB S x = true
  · by_cases g2 : secB S y = true
    · by_cases g3 : x = y
      · rw [if_neg (by rw [g, g2, decide_eq_true g3]; decide)]
        refine ⟨M, ?_, H, Fr.rf⟩
        show f_X8_isolator X M _ _ = _
        unfold f_X8_isolator b_X8_isolator_27
        rw [hasSec_ok h1, g, obn_s, if_neg (by decide), hasSec_ok h1, g2, obn_s, if_neg (by decide), if_pos g3]
      · rw [if_pos (by rw [g, g2, decide_eq_false g3]; decide)]
        obtain ⟨x', hx, rfl⟩ := in_of (n := nn S) (by omega) (by have := g; unfold secB at this; rw [h1.1.1.1] at this; exact this)
        obtain ⟨y', hy, rfl⟩ := in_of (n := nn S) (by omega) (by have := g2; unfold secB at this; rw [h1.1.1.1] at this; exact this)
        have ej := endang_ok h1 hx hy
        rw [show ix (nI x') = x' from n_ix (by omega), show ix (nI y') = y' from n_ix (by omega)]
        unfold jnB
        generalize decide (fb_ct (enS S (nn S) (kn S) x' y') (nn S) ≠ 0) = E at ej
        cases E
        · rw [if_neg (by decide)]
          by_cases g4 : kn S = 16
          · rw [if_pos g4]
            refine ⟨M, ?_, H, Fr.rf⟩
            show f_X8_isolator X M _ _ = _
            unfold f_X8_isolator
            rw [hasSec_ok h1, g, obn_s, if_neg (by decide), hasSec_ok h1, g2, obn_s, if_neg (by decide), if_neg g3, ej, obn_s, if_pos (by decide), hc, g4, if_neg (by decide)]
          · rw [if_neg g4]
            obtain ⟨M1, k1, k2, k3⟩ := mutP H
            obtain ⟨M2, p1, p2, p3⟩ := addIso_ok (h1.kept (M' := M1) fun b b1 b2 => k2 b (by omega)) (by omega) hx hy
            obtain ⟨q1, q2⟩ := k3 M2 _ _ _ _ (fun b hb => p3 b (by omega)) p2 (H.2.2.2.1.of (ni_g (by omega) (by omega)) fun s hs => ⟨ni_O (by omega) hs (by omega), ni_O (by omega) hs (by omega)⟩)
            refine ⟨M2, ?_, q1, q2⟩
            show f_X8_isolator X M _ _ = _
            unfold f_X8_isolator
            rw [hasSec_ok h1, g, obn_s, if_neg (by decide), hasSec_ok h1, g2, obn_s, if_neg (by decide), if_neg g3, ej, obn_s, if_pos (by decide), hc, show (16 : Int32) = nI 16 from rfl, if_pos (by rw [n_lt (by omega) (by omega)]; omega), k1, obn_s, p1, obn_s]
        · rw [if_pos rfl]
          refine ⟨M, ?_, H, Fr.rf⟩
          show f_X8_isolator X M _ _ = _
          unfold f_X8_isolator
          rw [hasSec_ok h1, g, obn_s, if_neg (by decide), hasSec_ok h1, g2, obn_s, if_neg (by decide), if_neg g3, ej, obn_s, if_neg (by decide)]
    · have g4 : secB S y = false := by simpa using g2
      rw [if_neg (by rw [g4, Bool.false_and, Bool.and_false]; decide)]
      refine ⟨M, ?_, H, Fr.rf⟩
      show f_X8_isolator X M _ _ = _
      unfold f_X8_isolator b_X8_isolator_27
      rw [hasSec_ok h1, g, obn_s, if_neg (by decide), hasSec_ok h1, g4, obn_s, if_pos (by decide)]
  · have g4 : secB S x = false := by simpa using g
    rw [if_neg (by rw [g4, Bool.false_and]; decide)]
    refine ⟨M, ?_, H, Fr.rf⟩
    show f_X8_isolator X M _ _ = _
    unfold f_X8_isolator b_X8_isolator_27
    rw [hasSec_ok h1, g4, obn_s, if_pos (by decide)]
end S5
