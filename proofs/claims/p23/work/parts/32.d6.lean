/-! gangs that come, leave, and tools fetched -/
section S6
variable {M : Mm} {X m n k q w : Nat} {S : Sm}
theorem RW.sv {M' : Mm} {S' : Sm} (h : RW M w S n k q) (W' : Wf S' n k q) (hs : sB M' (w + 8) S' n) (e : ∀ b, (b < w + 8 ∨ w + 16 ≤ b) → M' b = M b) (e1 : ∀ s, s < n → aO S' s 1 = aO S s 1 ∧ aO S' s 8 = aO S s 8)
    (eI : ∀ i, i < k → ∀ j, j < 4 → aI S' i j = aI S i j) (eL : ∀ j, j < q → ∀ t, t < 3 → aL S' j t = aL S j t) (e4 : S' 4 = S 4) : RW M' w S' n k q :=
  ⟨W', nN_S (fun s hs => (e1 s hs).1) (fun i hi j hj => eI i hi j (by omega)) (nN_kept (fun b h1 h2 => e b (by omega)) h.2.1), hs, lB_c e4 eL (fun s hs => (e1 s hs).2) (fun i hi => eI i hi 3 (by omega)) (lB_kept (fun b h1 h2 => e b (by omega)) h.2.2.2)⟩
def egS (S : Sm) (p : Nat) (x y : Int32) : Sm := upd (upd (upd S (7 + 9 * p + 4) (nI 1)) (7 + 9 * p + 5) x) (7 + 9 * p + 6) y
def lgS (S : Sm) (p : Nat) (x y : Int32) : Sm := upd (upd (upd (upd (upd S (7 + 9 * p + 7) x) 6 y) (7 + 9 * p + 4) (nI 0)) (7 + 9 * p + 5) (nI 0)) (7 + 9 * p + 6) (nI 0)
theorem RW.eg (h : RW M w S n k q) {p : Nat} (hp : p < n) (x y : Int32) : RW (mst (mst (mst M (w + 8 + 4) p (nI 1)) (w + 8 + 5) p x) (w + 8 + 6) p y) w (egS S p x y) n k q := by
  have hn := h.nlow
  have hk := h.klow
  have W := h.1
  have W' : Wf (egS S p x y) n k q := ((W.setB hp (j := 4) (by omega) (by omega) (fun _ => ⟨true, rfl⟩)).setB hp (j := 5) (by omega) (by omega) (y := x) (fun c => by omega)).setB hp (j := 6) (by omega) (by omega) (y := y) (fun c => by omega)
  obtain ⟨g0, g1, g2⟩ := h.2.2.1
  refine h.sv W' ⟨?_, fun s hs => ?_, fun s h1 h2 => ?_⟩ (fun b hb => by rw [mst_n (by omega), mst_n (by omega), mst_n (by omega)]) (fun s hs => ?_) (fun i hi j hj => ?_) (fun j hj t ht => ?_) ?_
  · rw [mst_n (by omega), mst_n (by omega), mst_n (by omega)]
    unfold egS
    rw [upd_n (show 3 ≠ 7 + 9 * p + 6 by omega), upd_n (show 3 ≠ 7 + 9 * p + 5 by omega), upd_n (show 3 ≠ 7 + 9 * p + 4 by omega), upd_n (show 2 ≠ 7 + 9 * p + 6 by omega), upd_n (show 2 ≠ 7 + 9 * p + 5 by omega), upd_n (show 2 ≠ 7 + 9 * p + 4 by omega), upd_n (show 6 ≠ 7 + 9 * p + 6 by omega), upd_n (show 6 ≠ 7 + 9 * p + 5 by omega), upd_n (show 6 ≠ 7 + 9 * p + 4 by omega)]
    exact g0
  · simp (disch := omega) only [mrow_n, mrow_at, mst_n, mst_at, upd_n, upd_at, mst_mrow]
    have h1 := g1 s hs
    by_cases e : s = p
    · subst e
      have a0 : aO (egS S s x y) s 0 = aO S s 0 := by unfold egS; rw [aO_u (by omega), aO_u (by omega), aO_u (by omega)]
      have a2 : aO (egS S s x y) s 2 = aO S s 2 := by unfold egS; rw [aO_u (by omega), aO_u (by omega), aO_u (by omega)]
      have a3 : aO (egS S s x y) s 3 = aO S s 3 := by unfold egS; rw [aO_u (by omega), aO_u (by omega), aO_u (by omega)]
      have a7 : aO (egS S s x y) s 7 = aO S s 7 := by unfold egS; rw [aO_u (by omega), aO_u (by omega), aO_u (by omega)]
      have a4 : aO (egS S s x y) s 4 = nI 1 := by unfold egS; rw [aO_u (by omega), aO_u (by omega)]; exact upd_at _ _ _
      have a5 : aO (egS S s x y) s 5 = x := by unfold egS; rw [aO_u (by omega)]; exact upd_at _ _ _
      have a6 : aO (egS S s x y) s 6 = y := by unfold egS; exact upd_at _ _ _
      unfold bS at h1 ⊢
      rw [a0, a2, a3, a4, a5, a6, a7]
      simp only [mrow_n, mrow_at, mst_n, mst_at, upd_n, upd_at, mst_mrow]
      exact ⟨h1.1, h1.2.1, h1.2.2.1, by decide, fun _ => ⟨trivial, trivial⟩, h1.2.2.2.2.2⟩
    · have a : ∀ j, j < 9 → aO (egS S p x y) s j = aO S s j := fun j hj => by unfold egS; rw [aO_u (by omega), aO_u (by omega), aO_u (by omega)]
      unfold bS at h1 ⊢
      rw [a 0 (by omega), a 2 (by omega), a 3 (by omega), a 4 (by omega), a 5 (by omega), a 6 (by omega), a 7 (by omega)]
      simp only [upd_n e]
      exact h1
  · simp (disch := omega) only [mrow_n, mrow_at, mst_n, mst_at, upd_n, upd_at, mst_mrow]
    exact g2 s h1 h2
  · unfold egS
    rw [aO_u (by omega), aO_u (by omega), aO_u (by omega), aO_u (by omega), aO_u (by omega), aO_u (by omega)]
    exact ⟨rfl, rfl⟩
  · unfold egS
    rw [aI_u (by omega), aI_u (by omega), aI_u (by omega)]
  · unfold egS
    rw [aL_u (by omega), aL_u (by omega), aL_u (by omega)]
  · unfold egS
    rw [upd_n (by omega), upd_n (by omega), upd_n (by omega)]
theorem RW.lg (h : RW M w S n k q) {p : Nat} (hp : p < n) (x y : Int32) : RW (mst (mst (mst M (w + 8 + 4) p (nI 0)) (w + 8 + 7) p x) (w + 8) 2 y) w (lgS S p x y) n k q := by
  have hn := h.nlow
  have hk := h.klow
  have W := h.1
  have W' : Wf (lgS S p x y) n k q := ((((W.setB hp (j := 7) (by omega) (by omega) (y := x) (fun c => by omega)).setG (j := 6) (by omega) y).setB hp (j := 4) (by omega) (by omega) (y := nI 0) (fun _ => ⟨false, rfl⟩)).setB hp (j := 5) (by omega) (by omega) (y := nI 0) (fun c => by omega)).setB hp (j := 6) (by omega) (by omega) (y := nI 0) (fun c => by omega)
  obtain ⟨g0, g1, g2⟩ := h.2.2.1
  refine h.sv W' ⟨?_, fun s hs => ?_, fun s h1 h2 => ?_⟩ (fun b hb => by rw [mst_n (by omega), mst_n (by omega), mst_n (by omega)]) (fun s hs => ?_) (fun i hi j hj => ?_) (fun j hj t ht => ?_) ?_
  · simp (disch := omega) only [mrow_n, mrow_at, mst_n, mst_at, upd_n, upd_at, mst_mrow]
    unfold lgS
    rw [upd_n (show 3 ≠ 7 + 9 * p + 6 by omega), upd_n (show 3 ≠ 7 + 9 * p + 5 by omega), upd_n (show 3 ≠ 7 + 9 * p + 4 by omega), upd_n (show 3 ≠ 6 by omega), upd_n (show 3 ≠ 7 + 9 * p + 7 by omega), upd_n (show 2 ≠ 7 + 9 * p + 6 by omega), upd_n (show 2 ≠ 7 + 9 * p + 5 by omega), upd_n (show 2 ≠ 7 + 9 * p + 4 by omega), upd_n (show 2 ≠ 6 by omega), upd_n (show 2 ≠ 7 + 9 * p + 7 by omega), upd_n (show 6 ≠ 7 + 9 * p + 6 by omega), upd_n (show 6 ≠ 7 + 9 * p + 5 by omega), upd_n (show 6 ≠ 7 + 9 * p + 4 by omega), upd_at]
    exact ⟨g0.1, g0.2.1, rfl⟩
  · simp (disch := omega) only [mrow_n, mrow_at, mst_n, mst_at, upd_n, upd_at, mst_mrow]
    have h1 := g1 s hs
    by_cases e : s = p
    · subst e
      have a0 : aO (lgS S s x y) s 0 = aO S s 0 := by unfold lgS; rw [aO_u (by omega), aO_u (by omega), aO_u (by omega), aO_u (by omega), aO_u (by omega)]
      have a2 : aO (lgS S s x y) s 2 = aO S s 2 := by unfold lgS; rw [aO_u (by omega), aO_u (by omega), aO_u (by omega), aO_u (by omega), aO_u (by omega)]
      have a3 : aO (lgS S s x y) s 3 = aO S s 3 := by unfold lgS; rw [aO_u (by omega), aO_u (by omega), aO_u (by omega), aO_u (by omega), aO_u (by omega)]
      have a7 : aO (lgS S s x y) s 7 = x := by unfold lgS; rw [aO_u (by omega), aO_u (by omega), aO_u (by omega), aO_u (by omega)]; exact upd_at _ _ _
      have a4 : aO (lgS S s x y) s 4 = nI 0 := by unfold lgS; rw [aO_u (by omega), aO_u (by omega)]; exact upd_at _ _ _
      unfold bS at h1 ⊢
      rw [a0, a2, a3, a4, a7]
      simp only [mrow_n, mrow_at, mst_n, mst_at, upd_n, upd_at, mst_mrow]
      exact ⟨h1.1, h1.2.1, h1.2.2.1, by decide, fun c => absurd c (by decide), trivial⟩
    · have a : ∀ j, j < 9 → aO (lgS S p x y) s j = aO S s j := fun j hj => by unfold lgS; rw [aO_u (by omega), aO_u (by omega), aO_u (by omega), aO_u (by omega), aO_u (by omega)]
      unfold bS at h1 ⊢
      rw [a 0 (by omega), a 2 (by omega), a 3 (by omega), a 4 (by omega), a 5 (by omega), a 6 (by omega), a 7 (by omega)]
      simp only [upd_n e]
      exact h1
  · have e : s ≠ p := by omega
    simp (disch := omega) only [mrow_n, mrow_at, mst_n, mst_at, upd_n, upd_at, mst_mrow]
    exact g2 s h1 h2
  · unfold lgS
    rw [aO_u (by omega), aO_u (by omega), aO_u (by omega), aO_u (by omega), aO_u (by omega), aO_u (by omega), aO_u (by omega), aO_u (by omega), aO_u (by omega), aO_u (by omega)]
    exact ⟨rfl, rfl⟩
  · unfold lgS
    rw [aI_u (by omega), aI_u (by omega), aI_u (by omega), aI_u (by omega), aI_u (by omega)]
  · unfold lgS
    rw [aL_u (by omega), aL_u (by omega), aL_u (by omega), aL_u (by omega), aL_u (by omega)]
  · unfold lgS
    rw [upd_n (by omega), upd_n (by omega), upd_n (by omega), upd_n (by omega), upd_n (by omega)]
theorem RW.ft (h : RW M w S n k q) {p : Nat} (hp : p < n) : RW (mst M (w + 8 + 7) p (nI 0)) w (upd S (7 + 9 * p + 7) (nI 0)) n k q := by
  have hn := h.nlow
  have hk := h.klow
  have W := h.1
  have W' : Wf (upd S (7 + 9 * p + 7) (nI 0)) n k q := W.setB hp (j := 7) (by omega) (by omega) (y := nI 0) (fun c => by omega)
  obtain ⟨g0, g1, g2⟩ := h.2.2.1
  refine h.sv W' ⟨?_, fun s hs => ?_, fun s h1 h2 => ?_⟩ (fun b hb => by rw [mst_n (by omega)]) (fun s hs => ?_) (fun i hi j hj => ?_) (fun j hj t ht => ?_) ?_
  · rw [mst_n (by omega), upd_n (by omega), upd_n (by omega), upd_n (by omega)]
    exact g0
  · have h1 := g1 s hs
    simp (disch := omega) only [mrow_n, mrow_at, mst_n, mst_at, upd_n, upd_at, mst_mrow]
    by_cases e : s = p
    · subst e
      unfold bS at h1 ⊢
      rw [aO_u (by omega), aO_u (by omega), aO_u (by omega), aO_u (by omega), aO_u (by omega), aO_u (by omega), upd_at]
      exact ⟨h1.1, h1.2.1, h1.2.2.1, h1.2.2.2.1, h1.2.2.2.2.1, (upd_at _ _ _).symm⟩
    · unfold bS at h1 ⊢
      rw [aO_u (by omega), aO_u (by omega), aO_u (by omega), aO_u (by omega), aO_u (by omega), aO_u (by omega), aO_u (by omega), upd_n e]
      exact h1
  · have e : s ≠ p := by omega
    simp (disch := omega) only [mrow_n, mrow_at, mst_n, mst_at, upd_n, upd_at, mst_mrow]
    exact g2 s h1 h2
  · rw [aO_u (by omega), aO_u (by omega)]
    exact ⟨rfl, rfl⟩
  · rw [aI_u (by omega)]
  · rw [aL_u (by omega)]
  · rw [upd_n (by omega)]
theorem secP (h : RW M w S n k q) {x : Int32} (g : secB S x = true) : ∃ p, p < n ∧ x = nI p := by
  have hn := h.nlow
  unfold secB at g
  rw [h.1.1.1] at g
  exact in_of (by omega) g
variable {h : List Sm} {t : List Int32}
def oFe (S : Sm) (x : Int32) : Int32 × Option Sm :=
  if secB S x = true then
    (if aO S (ix x) 7 = nI 0 ∨ lvS S (nn S) (kn S) (ix x) = true ∨ bS S 4 (ix x) = true then (-2, none) else (aO S (ix x) 7, some (upd S (7 + 9 * ix x + 7) (nI 0))))
  else (-1, none)
theorem t_fetch (H : P M X S h t) (x : Int32) : Chg X S h t (f_X8_fetch X M x) M (oFe S x) := by
  have h1 := H.1
  have hn := h1.nlow
  unfold oFe
  by_cases g : secB S x = true
  · rw [if_pos g]
    obtain ⟨p, hp, rfl⟩ := secP h1 g
    rw [show ix (nI p) = p from n_ix (by omega)]
    obtain ⟨c1, c2, c3, c4, c5, c6⟩ := h1.se hp
    have lv := h1.lv (show p < 10 by omega)
    by_cases g2 : aO S p 7 = nI 0
    · rw [if_pos (Or.inl g2)]
      refine ⟨M, ?_, H, Fr.rf⟩
      show f_X8_fetch X M _ = _
      unfold f_X8_fetch b_X8_fetch_60
      rw [hasSec_ok h1, g, obn_s, if_neg (by decide)]
      simp (disch := omega) only [li_0, li_1, li_2, li_3, li_4, li_5, li_6, li_7, li_8, li_9, li_10, li_11, li_12, li_13, li_14, li_15, li_16, li_17, li_18, li_19, li_20, li_21, li_22, li_23, li_24, li_25, li_26, li_27, li_28, li_29, li_30, li_31, li_32, li_33, li_34, li_35, li_36, li_37, li_38, li_39, li_40, li_41, li_42, li_43, li_44, li_45, li_46, li_47, li_48, li_49, li_50, li_51, li_52, li_53, li_54, li_55, li_56, li_57, li_58, li_59, li_60, li_61, li_62, li_63, li_71, li_72, li_73, li_81, li_82, li_97, li_98, li_99, li_100, li_101, li_102, li_105, li_110, li_111, li_116, li_117, li_126, li_161, li_233, li_932, li_1165, li_10000, li_100000, n_lt_t, n_lt_f, n_eq_t, n_eq_f, nI_add, n_sub, n_mul, n_ix, n_ckd, bnd_e, obn_s, zrk_0, zrk_1, zrk_b, zb_0, zb_1, zb_b, if_true, if_false, Bool.toNat_true, Bool.toNat_false, b0, b1, Bool.false_eq_true, Bool.true_eq_false, c6, g2]
    · by_cases g3 : lvS S (nn S) (kn S) p = true ∨ bS S 4 p = true
      · rw [if_pos (Or.inr g3)]
        refine ⟨M, ?_, H, Fr.rf⟩
        show f_X8_fetch X M _ = _
        unfold f_X8_fetch b_X8_fetch_60
        rw [hasSec_ok h1, g, obn_s, if_neg (by decide)]
        simp (disch := omega) only [li_0, li_1, li_2, li_3, li_4, li_5, li_6, li_7, li_8, li_9, li_10, li_11, li_12, li_13, li_14, li_15, li_16, li_17, li_18, li_19, li_20, li_21, li_22, li_23, li_24, li_25, li_26, li_27, li_28, li_29, li_30, li_31, li_32, li_33, li_34, li_35, li_36, li_37, li_38, li_39, li_40, li_41, li_42, li_43, li_44, li_45, li_46, li_47, li_48, li_49, li_50, li_51, li_52, li_53, li_54, li_55, li_56, li_57, li_58, li_59, li_60, li_61, li_62, li_63, li_71, li_72, li_73, li_81, li_82, li_97, li_98, li_99, li_100, li_101, li_102, li_105, li_110, li_111, li_116, li_117, li_126, li_161, li_233, li_932, li_1165, li_10000, li_100000, n_lt_t, n_lt_f, n_eq_t, n_eq_f, nI_add, n_sub, n_mul, n_ix, n_ckd, bnd_e, obn_s, zrk_0, zrk_1, zrk_b, zb_0, zb_1, zb_b, if_true, if_false, Bool.toNat_true, Bool.toNat_false, b0, b1, Bool.false_eq_true, Bool.true_eq_false, c6, g2, lv, c4]
        rcases g3 with e | e <;> rw [e] <;> simp
      · rw [if_neg (fun c => c.elim g2 g3)]
        obtain ⟨g3, g4⟩ := not_or.mp g3
        have g3 : lvS S (nn S) (kn S) p = false := by simpa using g3
        have g4 : bS S 4 p = false := by simpa using g4
        obtain ⟨M1, k1, k2, k3⟩ := mutP H
        have h2 := (h1.kept (M' := M1) fun b b1 b2 => k2 b (by omega)).ft hp
        obtain ⟨q1, q2⟩ := k3 (mst M1 (X + 1 + 8 + 7) p (nI 0)) _ _ _ _ (fun b hb => mst_n (by omega)) h2 (H.2.2.2.1.of (upd_n (by omega)) fun s hs => ⟨aO_u (by omega), aO_u (by omega)⟩)
        refine ⟨mst M1 (X + 1 + 8 + 7) p (nI 0), ?_, q1, q2⟩
        show f_X8_fetch X M _ = _
        unfold f_X8_fetch
        rw [hasSec_ok h1, g, obn_s, if_neg (by decide)]
        simp (disch := omega) only [li_0, li_1, li_2, li_3, li_4, li_5, li_6, li_7, li_8, li_9, li_10, li_11, li_12, li_13, li_14, li_15, li_16, li_17, li_18, li_19, li_20, li_21, li_22, li_23, li_24, li_25, li_26, li_27, li_28, li_29, li_30, li_31, li_32, li_33, li_34, li_35, li_36, li_37, li_38, li_39, li_40, li_41, li_42, li_43, li_44, li_45, li_46, li_47, li_48, li_49, li_50, li_51, li_52, li_53, li_54, li_55, li_56, li_57, li_58, li_59, li_60, li_61, li_62, li_63, li_71, li_72, li_73, li_81, li_82, li_97, li_98, li_99, li_100, li_101, li_102, li_105, li_110, li_111, li_116, li_117, li_126, li_161, li_233, li_932, li_1165, li_10000, li_100000, n_lt_t, n_lt_f, n_eq_t, n_eq_f, nI_add, n_sub, n_mul, n_ix, n_ckd, bnd_e, obn_s, zrk_0, zrk_1, zrk_b, zb_0, zb_1, zb_b, if_true, if_false, Bool.toNat_true, Bool.toNat_false, b0, b1, Bool.false_eq_true, Bool.true_eq_false, c6, g2, lv, c4, g3, g4, k1]
  · have g2 : secB S x = false := by simpa using g
    rw [if_neg g]
    refine ⟨M, ?_, H, Fr.rf⟩
    show f_X8_fetch X M _ = _
    unfold f_X8_fetch
    rw [hasSec_ok h1, g2, obn_s, if_pos (by decide)]
end S6
