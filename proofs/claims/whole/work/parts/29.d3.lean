/-! places, refusals, steps; the pool, the clock, the text typed -/
section S3
variable {M : Mm} {X m : Nat}
theorem m_isPlace (x p : Int32) : f_X9_isPlace m M x p = some (nI (plB (M (m + 1)) x p).toNat, M) := by
  unfold f_X9_isPlace b_X9_isPlace_10 b_X9_isPlace_23 plB
  by_cases g2 : x = 2
  · rw [if_pos g2, if_pos (Or.inl g2), m_isIsolator, obn_s, zrk_b]
  · rw [if_neg g2]
    by_cases g3 : x = 3
    · rw [if_pos g3, if_pos (Or.inr g3), m_isIsolator, obn_s, zrk_b]
    · rw [if_neg g3, if_neg (by simp [g2, g3]), m_isSection, obn_s, zrk_b]
theorem li_le (S : Sm) (n k : Nat) (A : Nat → Bool) (r : Nat) : liS S n k A r ≤ r + 1 := by
  unfold liS
  have := ag_le S n (lvS S n k) A
  split <;> omega
theorem rf_lt (S : Sm) (n k x p : Nat) : rfS S n k x p < 1000 := by
  have a := li_le S n k (lwS S n k (cCl S p) (onx S n)) 42
  have b := li_le S n k (lwS S n k (cS S) (fun s => onx S n s || s == p)) 62
  unfold rfS
  repeat' split
  all_goals omega
theorem s_refusal (H : Q M X m) (x p : Int32) : Same X m (fun M => f_X8_refusal X M x p) (fun M => f_X9_refusal m M x p) M := by
  obtain ⟨hm, ⟨n, k, q, h1⟩, -⟩ := id H
  have hP := hasPlace_ok h1 x p
  by_cases g : inB x 0 7 = true
  · by_cases g2 : plB (M (m + 1)) x p = true
    · obtain ⟨x', p', rfl, rfl, hx, hp⟩ := plB_of h1.1 g g2
      obtain ⟨M1, r1, r2⟩ := reason_ok h1 hx hp
      have e1 : M1 (m + 1) = M (m + 1) := r2 _ (by omega)
      have r3 := m_refuses (a := m) (M := M1) (by rw [e1]; exact h1.1) hx hp
      rw [e1] at r3
      refine ⟨nI (rfS (M (m + 1)) n k x' p'), M1, M1, ?_, ?_, H.scr r2⟩
      · show f_X8_refusal X M _ _ = _
        unfold f_X8_refusal b_X8_refusal_25
        rw [hP, g, g2, Bool.true_and, obn_s, if_neg (by decide), r1, obn_s]
      · show f_X9_refusal m M1 _ _ = _
        unfold f_X9_refusal b_X9_refusal_29
        rw [m_in, g, obn_s, if_neg (by decide), m_isPlace, e1, g2, obn_s, if_neg (by decide), r3, obn_s]
    · have g2 : plB (M (m + 1)) x p = false := by simpa using g2
      refine ⟨-1, M, M, ?_, ?_, H⟩
      · show f_X8_refusal X M _ _ = _
        unfold f_X8_refusal b_X8_refusal_25
        rw [hP, g, g2, Bool.true_and, obn_s, if_pos (by decide)]
      · show f_X9_refusal m M _ _ = _
        unfold f_X9_refusal b_X9_refusal_28 b_X9_refusal_29
        rw [m_in, g, obn_s, if_neg (by decide), m_isPlace, g2, obn_s, if_pos (by decide)]
  · have g : inB x 0 7 = false := by simpa using g
    refine ⟨-1, M, M, ?_, ?_, H⟩
    · show f_X8_refusal X M _ _ = _
      unfold f_X8_refusal b_X8_refusal_25
      rw [hP, g, Bool.false_and, obn_s, if_pos (by decide)]
    · show f_X9_refusal m M _ _ = _
      unfold f_X9_refusal b_X9_refusal_28 b_X9_refusal_29
      rw [m_in, g, obn_s, if_pos (by decide)]
theorem st_keep {S : Sm} {n k x p : Nat} (hn : n ≤ 10) (hp : plc n k x p) : stS S x p 3 = S 3 ∧ ∀ s, s < 10 → aO (stS S x p) s 4 = aO S s 4 ∧ aO (stS S x p) s 6 = aO S s 6 := by
  unfold plc at hp
  unfold stS
  by_cases h2 : x = 2
  · rw [if_pos h2]
    exact ⟨upd_n (by omega), fun s hs => ⟨aO_u (by omega), aO_u (by omega)⟩⟩
  · by_cases h3 : x = 3
    · rw [if_neg h2, if_pos h3]
      exact ⟨upd_n (by omega), fun s hs => ⟨aO_u (by omega), aO_u (by omega)⟩⟩
    · rw [if_neg h2, if_neg h3]
      have hp : p < n := by rw [if_neg (by omega)] at hp; exact hp
      repeat' split
      all_goals exact ⟨upd_n (by omega), fun s hs => ⟨aO_u (by omega), aO_u (by omega)⟩⟩
theorem Tm.mk {S : Sm} {n k q x p : Nat} (W : Wf S n k q) (hx : x < 8) (hp : plc n k x p) (h : Tm S) : Tm (mkS S q x p) := by
  have hn := W.1.2.1
  obtain ⟨e1, e2⟩ := st_keep (S := S) hn hp
  have h2 := h.of e1 e2
  have W2 := W.st hx hp
  show Tm (wrS (stS S x p) q x p)
  exact h2.of (wr_g _ _ _ _ (by omega) (by omega) (by omega)) fun s hs => ⟨wr_O W2 _ _ hs (by omega), wr_O W2 _ _ hs (by omega)⟩
theorem s_step (H : Q M X m) (x p : Int32) : Same X m (fun M => f_X8_step X M x p) (fun M => f_X9_step m M x p) M := by
  obtain ⟨hm, ⟨n, k, q, h1⟩, -⟩ := id H
  have hP := hasPlace_ok h1 x p
  by_cases g : inB x 0 7 = true
  · by_cases g2 : plB (M (m + 1)) x p = true
    · obtain ⟨x', p', rfl, rfl, hx, hp⟩ := plB_of h1.1 g g2
      obtain ⟨M1, r1, r2⟩ := reason_ok h1 hx hp
      have e1 : M1 (m + 1) = M (m + 1) := r2 _ (by omega)
      have rr := rf_lt (M (m + 1)) n k x' p'
      by_cases g3 : rfS (M (m + 1)) n k x' p' = 0
      · have H1 := H.scr r2
        have h2 := h1.scr r2
        obtain ⟨M2, R, d', k1, k2, k3⟩ := mutQ H1
        have h3 : RW M2 (X + 1) (M (m + 1)) n k q := h2.kept fun b b1 b2 => k2 b (by omega)
        obtain ⟨M3, s1, s2, s3⟩ := make_ok h3 hx hp
        obtain ⟨r4, e4, hQ⟩ := k3 M3 (fun b hb => s3 b (by omega))
        have c3 : ∀ b, X + 195 ≤ b → M3 b = M b := fun b hb => by rw [s3 b (by omega), k2 b (by omega), r2 b (by omega)]
        have e3 := c3 (m + 1) (by omega)
        have r3 := m_refuses (a := m) (M := M3) (by rw [e3]; exact h1.1) hx hp
        rw [e3, g3] at r3
        rw [e1] at e4
        generalize hM4 : mst (mrow M3 (m + 2) R) m 3 (nI d') = M4 at r4 e4 hQ
        have r5 := m_makes (a := m) (M := M4) (by rw [e4]; exact h1.1) hx hp
        rw [e4] at r5
        have e5 : mrow M4 (m + 1) (mkS (M (m + 1)) q x' p') (m + 1) = mkS (M (m + 1)) q x' p' := mrow_at _ _ _
        have W5 := h1.1.mk hx hp
        have r6 := m_liveNow (a := m) (M := mrow M4 (m + 1) (mkS (M (m + 1)) q x' p')) (n := n) (k := k) (q := mkq q) (by rw [e5]; exact W5)
        rw [e5] at r6
        have ct : f_X8_countTrue (X + 1 + 1 + 6) M3 = some (nI (fb_ct (lvS (mkS (M (m + 1)) q x' p') n k) 10), M3) := countTrue_ok fun i hi => s2.lv hi
        refine ⟨nI (fb_ct (lvS (mkS (M (m + 1)) q x' p') n k) 10), M3, mrow M4 (m + 1) (mkS (M (m + 1)) q x' p'), ?_, ?_, hQ _ _ _ _ s2 (Tm.mk h1.1 hx hp H.2.2.2.2.1)⟩
        · show f_X8_step X M _ _ = _
          unfold f_X8_step
          rw [hP, g, g2, Bool.true_and, obn_s, if_neg (by decide), r1, g3, obn_s, if_pos (show nI 0 = 0 from rfl), k1, obn_s, s1, obn_s, ct, obn_s]
        · show f_X9_step m M3 _ _ = _
          unfold f_X9_step
          rw [m_in, g, obn_s, if_neg (by decide), m_isPlace, e3, g2, obn_s, if_neg (by decide), r3, obn_s, if_pos (show nI 0 = 0 from rfl), r4, obn_s, r5, obn_s, r6, obn_s, m_bits, obn_s]
      · have r3 := m_refuses (a := m) (M := M1) (by rw [e1]; exact h1.1) hx hp
        rw [e1] at r3
        have z : ¬ nI (rfS (M (m + 1)) n k x' p') = 0 := by
          rw [show (0 : Int32) = nI 0 from rfl, n_eq (by omega) (by omega)]
          exact g3
        refine ⟨-2, M1, M1, ?_, ?_, H.scr r2⟩
        · show f_X8_step X M _ _ = _
          unfold f_X8_step
          rw [hP, g, g2, Bool.true_and, obn_s, if_neg (by decide), r1, obn_s, if_neg z]
        · show f_X9_step m M1 _ _ = _
          unfold f_X9_step
          rw [m_in, g, obn_s, if_neg (by decide), m_isPlace, e1, g2, obn_s, if_neg (by decide), r3, obn_s, if_neg z]
    · have g2 : plB (M (m + 1)) x p = false := by simpa using g2
      refine ⟨-1, M, M, ?_, ?_, H⟩
      · show f_X8_step X M _ _ = _
        unfold f_X8_step
        rw [hP, g, g2, Bool.true_and, obn_s, if_pos (by decide)]
      · show f_X9_step m M _ _ = _
        unfold f_X9_step b_X9_step_19
        rw [m_in, g, obn_s, if_neg (by decide), m_isPlace, g2, obn_s, if_pos (by decide)]
  · have g : inB x 0 7 = false := by simpa using g
    refine ⟨-1, M, M, ?_, ?_, H⟩
    · show f_X8_step X M _ _ = _
      unfold f_X8_step
      rw [hP, g, Bool.false_and, obn_s, if_pos (by decide)]
    · show f_X9_step m M _ _ = _
      unfold f_X9_step b_X9_step_19
      rw [m_in, g, obn_s, if_pos (by decide)]
theorem s_clear (H : Q M X m) : Same X m (fun M => f_X8_clearText X M) (fun M => f_X9_clearText m M) M := by
  obtain ⟨hm, ⟨n, k, q, h1⟩, ⟨d, h2, h3⟩, ⟨z, h4, h5, h6, h7⟩, hT, hTs⟩ := H
  refine ⟨nI z, mst M (X + 195) 0 (nI 0), mst (mst M (X + 195) 0 (nI 0)) m 5 (nI 0), ?_, ?_, hm, ⟨n, k, q, ?_⟩, ⟨d, ?_, ?_⟩, ⟨0, by omega, ?_, ?_, fun j hj => by omega⟩, ?_, ?_⟩
  · show f_X8_clearText X M = _
    unfold f_X8_clearText
    rw [h5]
    rfl
  · show f_X9_clearText m _ = _
    unfold f_X9_clearText
    rw [mst_n (by omega), h6]
    rfl
  · rw [mst_n (by omega), mst_n (by omega)]
    exact h1.kept fun b b1 b2 => by rw [mst_n (by omega), mst_n (by omega)]
  · rw [mst_at, upd_n (by omega), mst_n (by omega), h2]
  · refine (h3.kept fun b b1 b2 => by rw [mst_n (by omega), mst_n (by omega)]).c fun t ht j hj => ?_
    unfold pT
    rw [mst_n (by omega), mst_n (by omega)]
  · rw [mst_n (by omega), mst_at, upd_at]
  · rw [mst_at, upd_at]
  · rw [mst_n (by omega), mst_n (by omega)]
    exact hT
  · intro d2 e2 h52 t ht
    rw [mst_at, upd_n (by omega), mst_n (by omega)] at e2
    unfold pT
    rw [mst_n (by omega), mst_n (by omega)]
    exact hTs d2 e2 h52 t ht
theorem s_type (H : Q M X m) (x : Int32) : Same X m (fun M => f_X8_type X M x) (fun M => f_X9_type m M x) M := by
  have H0 := H
  obtain ⟨hm, ⟨n, k, q, h1⟩, ⟨d, h2, h3⟩, ⟨z, h4, h5, h6, h7⟩, hT, hTs⟩ := H
  by_cases g : inB x 32 126 = true
  · rcases Nat.lt_or_ge z 60 with y | y
    · refine ⟨nI (z + 1), mst (mst M (X + 196) z x) (X + 195) 0 (nI (z + 1)), mst (mst (mst (mst M (X + 196) z x) (X + 195) 0 (nI (z + 1))) (m + 4) z x) m 5 (nI (z + 1)), ?_, ?_, hm, ⟨n, k, q, ?_⟩, ⟨d, ?_, ?_⟩, ⟨z + 1, by omega, ?_, ?_, fun j hj => ?_⟩, ?_, ?_⟩
      · show f_X8_type X M x = _
        unfold f_X8_type
        rw [outside_ok, g, Bool.not_true, obn_s, if_pos (by decide)]
        simp (disch := omega) only [li_0, li_1, li_2, li_3, li_4, li_5, li_6, li_7, li_8, li_9, li_10, li_11, li_12, li_13, li_14, li_15, li_16, li_17, li_18, li_19, li_20, li_21, li_22, li_23, li_24, li_25, li_26, li_27, li_28, li_29, li_30, li_31, li_32, li_33, li_34, li_35, li_36, li_37, li_38, li_39, li_40, li_41, li_42, li_43, li_44, li_45, li_46, li_47, li_48, li_49, li_50, li_51, li_52, li_53, li_54, li_55, li_56, li_57, li_58, li_59, li_60, li_61, li_62, li_63, li_71, li_72, li_73, li_81, li_82, li_97, li_98, li_99, li_100, li_101, li_102, li_105, li_110, li_111, li_116, li_117, li_126, li_161, li_233, li_932, li_1165, li_10000, li_100000, n_lt_t, n_lt_f, n_eq_t, n_eq_f, nI_add, n_sub, n_mul, n_ix, n_ckd, bnd_e, obn_s, zrk_0, zrk_1, zrk_b, zb_0, zb_1, zb_b, if_true, if_false, Bool.toNat_true, Bool.toNat_false, b0, b1, Bool.false_eq_true, Bool.true_eq_false, h5, mrow_n, mrow_at, mst_n, mst_at, upd_n, upd_at, mst_mrow]
      · show f_X9_type m _ x = _
        unfold f_X9_type
        rw [m_in, g, obn_s, if_neg (by decide)]
        simp (disch := omega) only [mrow_n, mrow_at, mst_n, mst_at, upd_n, upd_at, mst_mrow, h6]
        rw [show (60 : Int32) = nI 60 from rfl, if_neg (by rw [n_eq (by omega) (by omega)]; omega)]
        simp (disch := omega) only [li_0, li_1, li_2, li_3, li_4, li_5, li_6, li_7, li_8, li_9, li_10, li_11, li_12, li_13, li_14, li_15, li_16, li_17, li_18, li_19, li_20, li_21, li_22, li_23, li_24, li_25, li_26, li_27, li_28, li_29, li_30, li_31, li_32, li_33, li_34, li_35, li_36, li_37, li_38, li_39, li_40, li_41, li_42, li_43, li_44, li_45, li_46, li_47, li_48, li_49, li_50, li_51, li_52, li_53, li_54, li_55, li_56, li_57, li_58, li_59, li_60, li_61, li_62, li_63, li_71, li_72, li_73, li_81, li_82, li_97, li_98, li_99, li_100, li_101, li_102, li_105, li_110, li_111, li_116, li_117, li_126, li_161, li_233, li_932, li_1165, li_10000, li_100000, n_lt_t, n_lt_f, n_eq_t, n_eq_f, nI_add, n_sub, n_mul, n_ix, n_ckd, bnd_e, obn_s, zrk_0, zrk_1, zrk_b, zb_0, zb_1, zb_b, if_true, if_false, Bool.toNat_true, Bool.toNat_false, b0, b1, Bool.false_eq_true, Bool.true_eq_false, h6, mrow_n, mrow_at, mst_n, mst_at, upd_n, upd_at, mst_mrow]
      · rw [mst_n (by omega), mst_n (by omega), mst_n (by omega), mst_n (by omega)]
        exact h1.kept fun b b1 b2 => by rw [mst_n (by omega), mst_n (by omega), mst_n (by omega), mst_n (by omega)]
      · rw [mst_at, upd_n (by omega), mst_n (by omega), mst_n (by omega), mst_n (by omega), h2]
      · refine (h3.kept fun b b1 b2 => by rw [mst_n (by omega), mst_n (by omega), mst_n (by omega), mst_n (by omega)]).c fun t ht j hj => ?_
        unfold pT
        rw [mst_n (by omega), mst_n (by omega), mst_n (by omega), mst_n (by omega)]
      · rw [mst_n (by omega), mst_n (by omega), mst_at, upd_at]
      · rw [mst_at, upd_at]
      · rw [mst_n (show X + 196 ≠ m by omega), mst_n (show X + 196 ≠ m + 4 by omega), mst_n (show X + 196 ≠ X + 195 by omega), mst_at, mst_n (show m + 4 ≠ m by omega), mst_at, mst_n (show m + 4 ≠ X + 195 by omega), mst_n (show m + 4 ≠ X + 196 by omega)]
        by_cases e : j = z
        · rw [e, upd_at, upd_at]
        · rw [upd_n e, upd_n e]
          exact h7 j (by omega)
      · rw [mst_n (by omega), mst_n (by omega), mst_n (by omega), mst_n (by omega)]
        exact hT
      · intro d2 e2 h52 t ht
        rw [mst_at, upd_n (by omega), mst_n (by omega), mst_n (by omega), mst_n (by omega)] at e2
        unfold pT
        rw [mst_n (by omega), mst_n (by omega), mst_n (by omega), mst_n (by omega)]
        exact hTs d2 e2 h52 t ht
    · have y : z = 60 := by omega
      subst y
      refine ⟨-3, M, M, ?_, ?_, H0⟩
      · show f_X8_type X M x = _
        unfold f_X8_type
        rw [outside_ok, g, Bool.not_true, obn_s, if_pos (by decide), h5, if_neg (by decide)]
      · show f_X9_type m M x = _
        unfold f_X9_type
        rw [m_in, g, obn_s, if_neg (by decide), h6, if_pos (by rfl)]
  · have g : inB x 32 126 = false := by simpa using g
    refine ⟨-1, M, M, ?_, ?_, H0⟩
    · show f_X8_type X M x = _
      unfold f_X8_type
      rw [outside_ok, g, Bool.not_false, obn_s, if_neg (by decide)]
    · show f_X9_type m M x = _
      unfold f_X9_type
      rw [m_in, g, obn_s, if_pos (by decide)]
theorem in2 {x : Int32} (h : inB x 0 2 = true) : x = nI 0 ∨ x = nI 1 ∨ x = nI 2 := by
  obtain ⟨s, h1, rfl⟩ := in_of (n := 3) (by omega) h
  rcases (show s = 0 ∨ s = 1 ∨ s = 2 by omega) with e | e | e <;> rw [e]
  · exact Or.inl rfl
  · exact Or.inr (Or.inl rfl)
  · exact Or.inr (Or.inr rfl)
theorem lt_nat {x : Int32} {q : Nat} (hq : q < 1000) (h0 : ¬ x < 0) (h : x < nI q) : ∃ j, j < q ∧ x = nI j := by
  refine in_of (n := q) hq ?_
  unfold inB
  rw [decide_eq_true_eq]
  refine ⟨h0, fun h2 => ?_⟩
  have hq0 : 0 < q := by
    rcases Nat.eq_zero_or_pos q with z | z
    · subst z; exact absurd h h0
    · exact z
  rw [show nI q - nI 1 = nI (q - 1) from n_sub (by omega)] at h2
  rw [Int32.lt_iff_toInt_lt] at h h2
  have e1 : (nI q).toInt = q := by
    show (Int32.ofNat q).toInt = q
    rw [Int32.toInt_ofNat_of_lt (by omega)]
  have e2 : (nI (q - 1)).toInt = (q - 1 : Nat) := by
    show (Int32.ofNat (q - 1)).toInt = (q - 1 : Nat)
    rw [Int32.toInt_ofNat_of_lt (by omega)]
  rw [e1] at h
  rw [e2] at h2
  omega
theorem s_log (H : Q M X m) (x y : Int32) : Same X m (fun M => f_X8_log X M x y) (fun M => f_X9_log m M x y) M := by
  obtain ⟨hm, ⟨n, k, q, W, hN, hS, ⟨hl0, hl1⟩, hl2, hl3⟩, -⟩ := id H
  have hq := W.1.2.2.2.2.2
  have e5 := W.1.2.2.2.2.1
  by_cases g0 : x < 0
  · refine ⟨-1, M, M, ?_, ?_, H⟩
    · show f_X8_log X M _ _ = _
      unfold f_X8_log b_X8_log_13
      rw [if_pos g0]
    · show f_X9_log m M _ _ = _
      unfold f_X9_log b_X9_log_13
      rw [if_pos g0]
  · by_cases g : inB y 0 2 = true
    · by_cases g1 : x < nI q
      · obtain ⟨j, hj, rfl⟩ := lt_nat (by omega) g0 g1
        have hx := hl2 (q - 1 - j) (by omega)
        have c : ∀ t, t < 3 → f_X9_logged m M (nI (q - 1 - j)) (nI t) = some (aL (M (m + 1)) (q - 1 - j) t, M) := fun t ht => m_logged (by omega)
        rcases in2 g with e | e | e
        · subst e
          refine ⟨aL (M (m + 1)) (q - 1 - j) 0, M, M, ?_, ?_, H⟩
          · show f_X8_log X M _ _ = _
            unfold f_X8_log
            rw [if_neg g0, outside_ok, g, Bool.not_true, obn_s, if_pos (by decide), hl1, if_pos g1]
            simp (disch := omega) only [li_0, li_1, li_2, li_3, li_4, li_5, li_6, li_7, li_8, li_9, li_10, li_11, li_12, li_13, li_14, li_15, li_16, li_17, li_18, li_19, li_20, li_21, li_22, li_23, li_24, li_25, li_26, li_27, li_28, li_29, li_30, li_31, li_32, li_33, li_34, li_35, li_36, li_37, li_38, li_39, li_40, li_41, li_42, li_43, li_44, li_45, li_46, li_47, li_48, li_49, li_50, li_51, li_52, li_53, li_54, li_55, li_56, li_57, li_58, li_59, li_60, li_61, li_62, li_63, li_71, li_72, li_73, li_81, li_82, li_97, li_98, li_99, li_100, li_101, li_102, li_105, li_110, li_111, li_116, li_117, li_126, li_161, li_233, li_932, li_1165, li_10000, li_100000, n_lt_t, n_lt_f, n_eq_t, n_eq_f, nI_add, n_sub, n_mul, n_ix, n_ckd, bnd_e, obn_s, zrk_0, zrk_1, zrk_b, zb_0, zb_1, zb_b, if_true, if_false, Bool.toNat_true, Bool.toNat_false, b0, b1, Bool.false_eq_true, Bool.true_eq_false, hx.1, hx.2.1, hx.2.2]
          · show f_X9_log m M _ _ = _
            unfold f_X9_log b_X9_log_45
            rw [if_neg g0, m_in, g, obn_s, if_neg (by decide)]
            simp (disch := omega) only [li_0, li_1, li_2, li_3, li_4, li_5, li_6, li_7, li_8, li_9, li_10, li_11, li_12, li_13, li_14, li_15, li_16, li_17, li_18, li_19, li_20, li_21, li_22, li_23, li_24, li_25, li_26, li_27, li_28, li_29, li_30, li_31, li_32, li_33, li_34, li_35, li_36, li_37, li_38, li_39, li_40, li_41, li_42, li_43, li_44, li_45, li_46, li_47, li_48, li_49, li_50, li_51, li_52, li_53, li_54, li_55, li_56, li_57, li_58, li_59, li_60, li_61, li_62, li_63, li_71, li_72, li_73, li_81, li_82, li_97, li_98, li_99, li_100, li_101, li_102, li_105, li_110, li_111, li_116, li_117, li_126, li_161, li_233, li_932, li_1165, li_10000, li_100000, n_lt_t, n_lt_f, n_eq_t, n_eq_f, nI_add, n_sub, n_mul, n_ix, n_ckd, bnd_e, obn_s, zrk_0, zrk_1, zrk_b, zb_0, zb_1, zb_b, if_true, if_false, Bool.toNat_true, Bool.toNat_false, b0, b1, Bool.false_eq_true, Bool.true_eq_false, e5, c]
        · subst e
          refine ⟨aL (M (m + 1)) (q - 1 - j) 1, M, M, ?_, ?_, H⟩
          · show f_X8_log X M _ _ = _
            unfold f_X8_log
            rw [if_neg g0, outside_ok, g, Bool.not_true, obn_s, if_pos (by decide), hl1, if_pos g1]
            simp (disch := omega) only [li_0, li_1, li_2, li_3, li_4, li_5, li_6, li_7, li_8, li_9, li_10, li_11, li_12, li_13, li_14, li_15, li_16, li_17, li_18, li_19, li_20, li_21, li_22, li_23, li_24, li_25, li_26, li_27, li_28, li_29, li_30, li_31, li_32, li_33, li_34, li_35, li_36, li_37, li_38, li_39, li_40, li_41, li_42, li_43, li_44, li_45, li_46, li_47, li_48, li_49, li_50, li_51, li_52, li_53, li_54, li_55, li_56, li_57, li_58, li_59, li_60, li_61, li_62, li_63, li_71, li_72, li_73, li_81, li_82, li_97, li_98, li_99, li_100, li_101, li_102, li_105, li_110, li_111, li_116, li_117, li_126, li_161, li_233, li_932, li_1165, li_10000, li_100000, n_lt_t, n_lt_f, n_eq_t, n_eq_f, nI_add, n_sub, n_mul, n_ix, n_ckd, bnd_e, obn_s, zrk_0, zrk_1, zrk_b, zb_0, zb_1, zb_b, if_true, if_false, Bool.toNat_true, Bool.toNat_false, b0, b1, Bool.false_eq_true, Bool.true_eq_false, hx.1, hx.2.1, hx.2.2]
          · show f_X9_log m M _ _ = _
            unfold f_X9_log b_X9_log_45
            rw [if_neg g0, m_in, g, obn_s, if_neg (by decide)]
            simp (disch := omega) only [li_0, li_1, li_2, li_3, li_4, li_5, li_6, li_7, li_8, li_9, li_10, li_11, li_12, li_13, li_14, li_15, li_16, li_17, li_18, li_19, li_20, li_21, li_22, li_23, li_24, li_25, li_26, li_27, li_28, li_29, li_30, li_31, li_32, li_33, li_34, li_35, li_36, li_37, li_38, li_39, li_40, li_41, li_42, li_43, li_44, li_45, li_46, li_47, li_48, li_49, li_50, li_51, li_52, li_53, li_54, li_55, li_56, li_57, li_58, li_59, li_60, li_61, li_62, li_63, li_71, li_72, li_73, li_81, li_82, li_97, li_98, li_99, li_100, li_101, li_102, li_105, li_110, li_111, li_116, li_117, li_126, li_161, li_233, li_932, li_1165, li_10000, li_100000, n_lt_t, n_lt_f, n_eq_t, n_eq_f, nI_add, n_sub, n_mul, n_ix, n_ckd, bnd_e, obn_s, zrk_0, zrk_1, zrk_b, zb_0, zb_1, zb_b, if_true, if_false, Bool.toNat_true, Bool.toNat_false, b0, b1, Bool.false_eq_true, Bool.true_eq_false, e5, c]
        · subst e
          refine ⟨aL (M (m + 1)) (q - 1 - j) 2, M, M, ?_, ?_, H⟩
          · show f_X8_log X M _ _ = _
            unfold f_X8_log
            rw [if_neg g0, outside_ok, g, Bool.not_true, obn_s, if_pos (by decide), hl1, if_pos g1]
            simp (disch := omega) only [li_0, li_1, li_2, li_3, li_4, li_5, li_6, li_7, li_8, li_9, li_10, li_11, li_12, li_13, li_14, li_15, li_16, li_17, li_18, li_19, li_20, li_21, li_22, li_23, li_24, li_25, li_26, li_27, li_28, li_29, li_30, li_31, li_32, li_33, li_34, li_35, li_36, li_37, li_38, li_39, li_40, li_41, li_42, li_43, li_44, li_45, li_46, li_47, li_48, li_49, li_50, li_51, li_52, li_53, li_54, li_55, li_56, li_57, li_58, li_59, li_60, li_61, li_62, li_63, li_71, li_72, li_73, li_81, li_82, li_97, li_98, li_99, li_100, li_101, li_102, li_105, li_110, li_111, li_116, li_117, li_126, li_161, li_233, li_932, li_1165, li_10000, li_100000, n_lt_t, n_lt_f, n_eq_t, n_eq_f, nI_add, n_sub, n_mul, n_ix, n_ckd, bnd_e, obn_s, zrk_0, zrk_1, zrk_b, zb_0, zb_1, zb_b, if_true, if_false, Bool.toNat_true, Bool.toNat_false, b0, b1, Bool.false_eq_true, Bool.true_eq_false, hx.1, hx.2.1, hx.2.2]
          · show f_X9_log m M _ _ = _
            unfold f_X9_log b_X9_log_45
            rw [if_neg g0, m_in, g, obn_s, if_neg (by decide)]
            simp (disch := omega) only [li_0, li_1, li_2, li_3, li_4, li_5, li_6, li_7, li_8, li_9, li_10, li_11, li_12, li_13, li_14, li_15, li_16, li_17, li_18, li_19, li_20, li_21, li_22, li_23, li_24, li_25, li_26, li_27, li_28, li_29, li_30, li_31, li_32, li_33, li_34, li_35, li_36, li_37, li_38, li_39, li_40, li_41, li_42, li_43, li_44, li_45, li_46, li_47, li_48, li_49, li_50, li_51, li_52, li_53, li_54, li_55, li_56, li_57, li_58, li_59, li_60, li_61, li_62, li_63, li_71, li_72, li_73, li_81, li_82, li_97, li_98, li_99, li_100, li_101, li_102, li_105, li_110, li_111, li_116, li_117, li_126, li_161, li_233, li_932, li_1165, li_10000, li_100000, n_lt_t, n_lt_f, n_eq_t, n_eq_f, nI_add, n_sub, n_mul, n_ix, n_ckd, bnd_e, obn_s, zrk_0, zrk_1, zrk_b, zb_0, zb_1, zb_b, if_true, if_false, Bool.toNat_true, Bool.toNat_false, b0, b1, Bool.false_eq_true, Bool.true_eq_false, e5, c]
      · refine ⟨-4, M, M, ?_, ?_, H⟩
        · show f_X8_log X M _ _ = _
          unfold f_X8_log
          rw [if_neg g0, outside_ok, g, Bool.not_true, obn_s, if_pos (by decide), hl1, if_neg g1]
        · show f_X9_log m M _ _ = _
          unfold f_X9_log b_X9_log_45
          rw [if_neg g0, m_in, g, obn_s, if_neg (by decide)]
          simp (disch := omega) only [li_0, li_1, li_2, li_3, li_4, li_5, li_6, li_7, li_8, li_9, li_10, li_11, li_12, li_13, li_14, li_15, li_16, li_17, li_18, li_19, li_20, li_21, li_22, li_23, li_24, li_25, li_26, li_27, li_28, li_29, li_30, li_31, li_32, li_33, li_34, li_35, li_36, li_37, li_38, li_39, li_40, li_41, li_42, li_43, li_44, li_45, li_46, li_47, li_48, li_49, li_50, li_51, li_52, li_53, li_54, li_55, li_56, li_57, li_58, li_59, li_60, li_61, li_62, li_63, li_71, li_72, li_73, li_81, li_82, li_97, li_98, li_99, li_100, li_101, li_102, li_105, li_110, li_111, li_116, li_117, li_126, li_161, li_233, li_932, li_1165, li_10000, li_100000, n_lt_t, n_lt_f, n_eq_t, n_eq_f, nI_add, n_sub, n_mul, n_ix, n_ckd, bnd_e, obn_s, zrk_0, zrk_1, zrk_b, zb_0, zb_1, zb_b, if_true, if_false, Bool.toNat_true, Bool.toNat_false, b0, b1, Bool.false_eq_true, Bool.true_eq_false, e5, g1]
    · have g : inB y 0 2 = false := by simpa using g
      refine ⟨-1, M, M, ?_, ?_, H⟩
      · show f_X8_log X M _ _ = _
        unfold f_X8_log b_X8_log_13
        rw [if_neg g0, outside_ok, g, Bool.not_false, obn_s, if_neg (by decide)]
      · show f_X9_log m M _ _ = _
        unfold f_X9_log b_X9_log_13
        rw [if_neg g0, m_in, g, obn_s, if_pos (by decide)]
end S3
