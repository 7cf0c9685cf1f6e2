/-! what is asked of a section, of an isolator -/
section S9
variable {M : Mm} {X m n k q w : Nat} {S : Sm}
theorem isoP (h : RW M w S n k q) {x : Int32} (g : isoB S x = true) : ∃ p, p < k ∧ x = nI p := by
  have hk := h.klow
  unfold isoB at g
  rw [h.1.1.2.2.1] at g
  exact in_of (by omega) g
theorem s_sectionOf (H : Q M X m) (x y : Int32) : Same X m (fun M => f_X8_sectionOf X M x y) (fun M => f_X9_sectionOf m M x y) M := by
  obtain ⟨hm, ⟨n, k, q, h1⟩, -⟩ := id H
  have hn := h1.nlow
  have hk := h1.klow
  have W := h1.1
  by_cases g : secB (M (m + 1)) x = true
  · obtain ⟨p, hp, rfl⟩ := secP h1 g
    obtain ⟨c1, c2, c3, c4, c5, c6⟩ := h1.se hp
    obtain ⟨⟨cf', -⟩, b2', b3', b4', -⟩ := W.2.2.1 p hp
    have cf : M (X + 1 + 1 + 1) p = nI (fS (M (m + 1)) p) := (h1.2.1.1.2.1 p hp).1
    have lv := h1.lv (show p < 10 by omega)
    have r1 := m_isLive (a := m) W (show p < 10 by omega)
    have gs := groupSize_ok h1.2.1 hp
    have ca8 := closedAt_ok h1.2.1 (show p < 10 by omega)
    have hg : f_X9_hanging m M (nI 1 <<< (nI p &&& nI 31)) (bs (cS (M (m + 1))) k) = some (bs (its (psS (M (m + 1)) k (cS (M (m + 1)))) 10 (fun y => y == p)) 10, M) := by
      rw [bs_1 (show p < 10 by omega) (show 10 ≤ 32 by omega)]
      exact m_hanging W _ _ (Nat.le_refl k) (by omega)
    by_cases gy : inB y 0 10 = true
    · obtain ⟨t, t1, t2, rfl⟩ := in_nat (a := 0) (b := 10) (by omega) (by omega) gy
      match t, t2 with
      | 0, _ =>
      refine ⟨aO (M (m + 1)) p 0, M, M, ?_, ?_, H⟩
      · show f_X8_sectionOf X M _ _ = _
        unfold f_X8_sectionOf
        rw [hasSec_ok h1, g, obn_s, if_neg (by decide)]
        simp (disch := omega) only [li_0, li_1, li_2, li_3, li_4, li_5, li_6, li_7, li_8, li_9, li_10, li_11, li_12, li_13, li_14, li_15, li_16, li_17, li_18, li_19, li_20, li_21, li_22, li_23, li_24, li_25, li_26, li_27, li_28, li_29, li_30, li_31, li_32, li_33, li_34, li_35, li_36, li_37, li_38, li_39, li_40, li_41, li_42, li_43, li_44, li_45, li_46, li_47, li_48, li_49, li_50, li_51, li_52, li_53, li_54, li_55, li_56, li_57, li_58, li_59, li_60, li_61, li_62, li_63, li_71, li_72, li_73, li_81, li_82, li_97, li_98, li_99, li_100, li_101, li_102, li_105, li_110, li_111, li_116, li_117, li_126, li_161, li_233, li_932, li_1165, li_10000, li_100000, n_lt_t, n_lt_f, n_eq_t, n_eq_f, nI_add, n_sub, n_mul, n_ix, n_ckd, bnd_e, obn_s, zrk_0, zrk_1, zrk_b, zb_0, zb_1, zb_b, if_true, if_false, Bool.toNat_true, Bool.toNat_false, b0, b1, Bool.false_eq_true, Bool.true_eq_false, c1]
      · show f_X9_sectionOf m M _ _ = _
        unfold f_X9_sectionOf
        rw [m_isSection, g, obn_s, if_neg (by decide), m_in, gy, obn_s, if_neg (by decide)]
        simp (disch := omega) only [li_0, li_1, li_2, li_3, li_4, li_5, li_6, li_7, li_8, li_9, li_10, li_11, li_12, li_13, li_14, li_15, li_16, li_17, li_18, li_19, li_20, li_21, li_22, li_23, li_24, li_25, li_26, li_27, li_28, li_29, li_30, li_31, li_32, li_33, li_34, li_35, li_36, li_37, li_38, li_39, li_40, li_41, li_42, li_43, li_44, li_45, li_46, li_47, li_48, li_49, li_50, li_51, li_52, li_53, li_54, li_55, li_56, li_57, li_58, li_59, li_60, li_61, li_62, li_63, li_71, li_72, li_73, li_81, li_82, li_97, li_98, li_99, li_100, li_101, li_102, li_105, li_110, li_111, li_116, li_117, li_126, li_161, li_233, li_932, li_1165, li_10000, li_100000, n_lt_t, n_lt_f, n_eq_t, n_eq_f, nI_add, n_sub, n_mul, n_ix, n_ckd, bnd_e, obn_s, zrk_0, zrk_1, zrk_b, zb_0, zb_1, zb_b, if_true, if_false, Bool.toNat_true, Bool.toNat_false, b0, b1, Bool.false_eq_true, Bool.true_eq_false, b_X9_sectionOf_76, m_of]
      | 1, _ =>
      refine ⟨nI (fS (M (m + 1)) p), M, M, ?_, ?_, H⟩
      · show f_X8_sectionOf X M _ _ = _
        unfold f_X8_sectionOf
        rw [hasSec_ok h1, g, obn_s, if_neg (by decide)]
        simp (disch := omega) only [li_0, li_1, li_2, li_3, li_4, li_5, li_6, li_7, li_8, li_9, li_10, li_11, li_12, li_13, li_14, li_15, li_16, li_17, li_18, li_19, li_20, li_21, li_22, li_23, li_24, li_25, li_26, li_27, li_28, li_29, li_30, li_31, li_32, li_33, li_34, li_35, li_36, li_37, li_38, li_39, li_40, li_41, li_42, li_43, li_44, li_45, li_46, li_47, li_48, li_49, li_50, li_51, li_52, li_53, li_54, li_55, li_56, li_57, li_58, li_59, li_60, li_61, li_62, li_63, li_71, li_72, li_73, li_81, li_82, li_97, li_98, li_99, li_100, li_101, li_102, li_105, li_110, li_111, li_116, li_117, li_126, li_161, li_233, li_932, li_1165, li_10000, li_100000, n_lt_t, n_lt_f, n_eq_t, n_eq_f, nI_add, n_sub, n_mul, n_ix, n_ckd, bnd_e, obn_s, zrk_0, zrk_1, zrk_b, zb_0, zb_1, zb_b, if_true, if_false, Bool.toNat_true, Bool.toNat_false, b0, b1, Bool.false_eq_true, Bool.true_eq_false, cf]
      · show f_X9_sectionOf m M _ _ = _
        unfold f_X9_sectionOf
        rw [m_isSection, g, obn_s, if_neg (by decide), m_in, gy, obn_s, if_neg (by decide)]
        simp (disch := omega) only [li_0, li_1, li_2, li_3, li_4, li_5, li_6, li_7, li_8, li_9, li_10, li_11, li_12, li_13, li_14, li_15, li_16, li_17, li_18, li_19, li_20, li_21, li_22, li_23, li_24, li_25, li_26, li_27, li_28, li_29, li_30, li_31, li_32, li_33, li_34, li_35, li_36, li_37, li_38, li_39, li_40, li_41, li_42, li_43, li_44, li_45, li_46, li_47, li_48, li_49, li_50, li_51, li_52, li_53, li_54, li_55, li_56, li_57, li_58, li_59, li_60, li_61, li_62, li_63, li_71, li_72, li_73, li_81, li_82, li_97, li_98, li_99, li_100, li_101, li_102, li_105, li_110, li_111, li_116, li_117, li_126, li_161, li_233, li_932, li_1165, li_10000, li_100000, n_lt_t, n_lt_f, n_eq_t, n_eq_f, nI_add, n_sub, n_mul, n_ix, n_ckd, bnd_e, obn_s, zrk_0, zrk_1, zrk_b, zb_0, zb_1, zb_b, if_true, if_false, Bool.toNat_true, Bool.toNat_false, b0, b1, Bool.false_eq_true, Bool.true_eq_false, b_X9_sectionOf_76, m_of, cf']
      | 2, _ =>
      refine ⟨nI (lvS (M (m + 1)) n k p).toNat, M, M, ?_, ?_, H⟩
      · show f_X8_sectionOf X M _ _ = _
        unfold f_X8_sectionOf
        rw [hasSec_ok h1, g, obn_s, if_neg (by decide)]
        simp (disch := omega) only [li_0, li_1, li_2, li_3, li_4, li_5, li_6, li_7, li_8, li_9, li_10, li_11, li_12, li_13, li_14, li_15, li_16, li_17, li_18, li_19, li_20, li_21, li_22, li_23, li_24, li_25, li_26, li_27, li_28, li_29, li_30, li_31, li_32, li_33, li_34, li_35, li_36, li_37, li_38, li_39, li_40, li_41, li_42, li_43, li_44, li_45, li_46, li_47, li_48, li_49, li_50, li_51, li_52, li_53, li_54, li_55, li_56, li_57, li_58, li_59, li_60, li_61, li_62, li_63, li_71, li_72, li_73, li_81, li_82, li_97, li_98, li_99, li_100, li_101, li_102, li_105, li_110, li_111, li_116, li_117, li_126, li_161, li_233, li_932, li_1165, li_10000, li_100000, n_lt_t, n_lt_f, n_eq_t, n_eq_f, nI_add, n_sub, n_mul, n_ix, n_ckd, bnd_e, obn_s, zrk_0, zrk_1, zrk_b, zb_0, zb_1, zb_b, if_true, if_false, Bool.toNat_true, Bool.toNat_false, b0, b1, Bool.false_eq_true, Bool.true_eq_false, lv, asNumber_ok]
      · show f_X9_sectionOf m M _ _ = _
        unfold f_X9_sectionOf
        rw [m_isSection, g, obn_s, if_neg (by decide), m_in, gy, obn_s, if_neg (by decide)]
        simp (disch := omega) only [li_0, li_1, li_2, li_3, li_4, li_5, li_6, li_7, li_8, li_9, li_10, li_11, li_12, li_13, li_14, li_15, li_16, li_17, li_18, li_19, li_20, li_21, li_22, li_23, li_24, li_25, li_26, li_27, li_28, li_29, li_30, li_31, li_32, li_33, li_34, li_35, li_36, li_37, li_38, li_39, li_40, li_41, li_42, li_43, li_44, li_45, li_46, li_47, li_48, li_49, li_50, li_51, li_52, li_53, li_54, li_55, li_56, li_57, li_58, li_59, li_60, li_61, li_62, li_63, li_71, li_72, li_73, li_81, li_82, li_97, li_98, li_99, li_100, li_101, li_102, li_105, li_110, li_111, li_116, li_117, li_126, li_161, li_233, li_932, li_1165, li_10000, li_100000, n_lt_t, n_lt_f, n_eq_t, n_eq_f, nI_add, n_sub, n_mul, n_ix, n_ckd, bnd_e, obn_s, zrk_0, zrk_1, zrk_b, zb_0, zb_1, zb_b, if_true, if_false, Bool.toNat_true, Bool.toNat_false, b0, b1, Bool.false_eq_true, Bool.true_eq_false, r1, b_X9_sectionOf_96]
        cases lvS (M (m + 1)) n k p <;> simp
      | 3, _ =>
      obtain ⟨M1, l1, l2⟩ := liveLog_ok h1 hp
      have e1 : M1 (m + 1) = M (m + 1) := l2 _ (by omega)
      have ms : f_X9_isSection m M1 (nI p) = some (nI 1, M1) := by rw [m_isSection, e1, g]; rfl
      have r3 := m_liveAgain (a := m) (M := M1) (n := n) (k := k) (q := q) (by rw [e1]; exact W)
      rw [e1] at r3
      refine ⟨nI (laS (M (m + 1)) n k q p).toNat, M1, M1, ?_, ?_, H.scr l2⟩
      · show f_X8_sectionOf X M _ _ = _
        unfold f_X8_sectionOf
        rw [hasSec_ok h1, g, obn_s, if_neg (by decide)]
        simp (disch := omega) only [li_0, li_1, li_2, li_3, li_4, li_5, li_6, li_7, li_8, li_9, li_10, li_11, li_12, li_13, li_14, li_15, li_16, li_17, li_18, li_19, li_20, li_21, li_22, li_23, li_24, li_25, li_26, li_27, li_28, li_29, li_30, li_31, li_32, li_33, li_34, li_35, li_36, li_37, li_38, li_39, li_40, li_41, li_42, li_43, li_44, li_45, li_46, li_47, li_48, li_49, li_50, li_51, li_52, li_53, li_54, li_55, li_56, li_57, li_58, li_59, li_60, li_61, li_62, li_63, li_71, li_72, li_73, li_81, li_82, li_97, li_98, li_99, li_100, li_101, li_102, li_105, li_110, li_111, li_116, li_117, li_126, li_161, li_233, li_932, li_1165, li_10000, li_100000, n_lt_t, n_lt_f, n_eq_t, n_eq_f, nI_add, n_sub, n_mul, n_ix, n_ckd, bnd_e, obn_s, zrk_0, zrk_1, zrk_b, zb_0, zb_1, zb_b, if_true, if_false, Bool.toNat_true, Bool.toNat_false, b0, b1, Bool.false_eq_true, Bool.true_eq_false, l1, asNumber_ok]
      · show f_X9_sectionOf m M1 _ _ = _
        unfold f_X9_sectionOf
        rw [ms, obn_s, if_neg (by decide), m_in, gy, obn_s, if_neg (by decide)]
        simp (disch := omega) only [li_0, li_1, li_2, li_3, li_4, li_5, li_6, li_7, li_8, li_9, li_10, li_11, li_12, li_13, li_14, li_15, li_16, li_17, li_18, li_19, li_20, li_21, li_22, li_23, li_24, li_25, li_26, li_27, li_28, li_29, li_30, li_31, li_32, li_33, li_34, li_35, li_36, li_37, li_38, li_39, li_40, li_41, li_42, li_43, li_44, li_45, li_46, li_47, li_48, li_49, li_50, li_51, li_52, li_53, li_54, li_55, li_56, li_57, li_58, li_59, li_60, li_61, li_62, li_63, li_71, li_72, li_73, li_81, li_82, li_97, li_98, li_99, li_100, li_101, li_102, li_105, li_110, li_111, li_116, li_117, li_126, li_161, li_233, li_932, li_1165, li_10000, li_100000, n_lt_t, n_lt_f, n_eq_t, n_eq_f, nI_add, n_sub, n_mul, n_ix, n_ckd, bnd_e, obn_s, zrk_0, zrk_1, zrk_b, zb_0, zb_1, zb_b, if_true, if_false, Bool.toNat_true, Bool.toNat_false, b0, b1, Bool.false_eq_true, Bool.true_eq_false, r3, show bs (laS (M (m + 1)) n k q) 10 >>> (nI p &&& nI 31) &&& nI 1 = nI (laS (M (m + 1)) n k q p).toNat from by rw [bs_g (show 10 ≤ 31 by omega) (show p < 32 by omega), show decide (p < 10) = true by simp; omega, Bool.true_and]]
      | 4, _ =>
      refine ⟨nI (bS (M (m + 1)) 2 p).toNat, M, M, ?_, ?_, H⟩
      · show f_X8_sectionOf X M _ _ = _
        unfold f_X8_sectionOf
        rw [hasSec_ok h1, g, obn_s, if_neg (by decide)]
        simp (disch := omega) only [li_0, li_1, li_2, li_3, li_4, li_5, li_6, li_7, li_8, li_9, li_10, li_11, li_12, li_13, li_14, li_15, li_16, li_17, li_18, li_19, li_20, li_21, li_22, li_23, li_24, li_25, li_26, li_27, li_28, li_29, li_30, li_31, li_32, li_33, li_34, li_35, li_36, li_37, li_38, li_39, li_40, li_41, li_42, li_43, li_44, li_45, li_46, li_47, li_48, li_49, li_50, li_51, li_52, li_53, li_54, li_55, li_56, li_57, li_58, li_59, li_60, li_61, li_62, li_63, li_71, li_72, li_73, li_81, li_82, li_97, li_98, li_99, li_100, li_101, li_102, li_105, li_110, li_111, li_116, li_117, li_126, li_161, li_233, li_932, li_1165, li_10000, li_100000, n_lt_t, n_lt_f, n_eq_t, n_eq_f, nI_add, n_sub, n_mul, n_ix, n_ckd, bnd_e, obn_s, zrk_0, zrk_1, zrk_b, zb_0, zb_1, zb_b, if_true, if_false, Bool.toNat_true, Bool.toNat_false, b0, b1, Bool.false_eq_true, Bool.true_eq_false, c2, asNumber_ok]
      · show f_X9_sectionOf m M _ _ = _
        unfold f_X9_sectionOf
        rw [m_isSection, g, obn_s, if_neg (by decide), m_in, gy, obn_s, if_neg (by decide)]
        simp (disch := omega) only [li_0, li_1, li_2, li_3, li_4, li_5, li_6, li_7, li_8, li_9, li_10, li_11, li_12, li_13, li_14, li_15, li_16, li_17, li_18, li_19, li_20, li_21, li_22, li_23, li_24, li_25, li_26, li_27, li_28, li_29, li_30, li_31, li_32, li_33, li_34, li_35, li_36, li_37, li_38, li_39, li_40, li_41, li_42, li_43, li_44, li_45, li_46, li_47, li_48, li_49, li_50, li_51, li_52, li_53, li_54, li_55, li_56, li_57, li_58, li_59, li_60, li_61, li_62, li_63, li_71, li_72, li_73, li_81, li_82, li_97, li_98, li_99, li_100, li_101, li_102, li_105, li_110, li_111, li_116, li_117, li_126, li_161, li_233, li_932, li_1165, li_10000, li_100000, n_lt_t, n_lt_f, n_eq_t, n_eq_f, nI_add, n_sub, n_mul, n_ix, n_ckd, bnd_e, obn_s, zrk_0, zrk_1, zrk_b, zb_0, zb_1, zb_b, if_true, if_false, Bool.toNat_true, Bool.toNat_false, b0, b1, Bool.false_eq_true, Bool.true_eq_false, b_X9_sectionOf_106, m_of, b2']
      | 5, _ =>
      refine ⟨nI (bS (M (m + 1)) 3 p).toNat, M, M, ?_, ?_, H⟩
      · show f_X8_sectionOf X M _ _ = _
        unfold f_X8_sectionOf
        rw [hasSec_ok h1, g, obn_s, if_neg (by decide)]
        simp (disch := omega) only [li_0, li_1, li_2, li_3, li_4, li_5, li_6, li_7, li_8, li_9, li_10, li_11, li_12, li_13, li_14, li_15, li_16, li_17, li_18, li_19, li_20, li_21, li_22, li_23, li_24, li_25, li_26, li_27, li_28, li_29, li_30, li_31, li_32, li_33, li_34, li_35, li_36, li_37, li_38, li_39, li_40, li_41, li_42, li_43, li_44, li_45, li_46, li_47, li_48, li_49, li_50, li_51, li_52, li_53, li_54, li_55, li_56, li_57, li_58, li_59, li_60, li_61, li_62, li_63, li_71, li_72, li_73, li_81, li_82, li_97, li_98, li_99, li_100, li_101, li_102, li_105, li_110, li_111, li_116, li_117, li_126, li_161, li_233, li_932, li_1165, li_10000, li_100000, n_lt_t, n_lt_f, n_eq_t, n_eq_f, nI_add, n_sub, n_mul, n_ix, n_ckd, bnd_e, obn_s, zrk_0, zrk_1, zrk_b, zb_0, zb_1, zb_b, if_true, if_false, Bool.toNat_true, Bool.toNat_false, b0, b1, Bool.false_eq_true, Bool.true_eq_false, c3, asNumber_ok]
      · show f_X9_sectionOf m M _ _ = _
        unfold f_X9_sectionOf
        rw [m_isSection, g, obn_s, if_neg (by decide), m_in, gy, obn_s, if_neg (by decide)]
        simp (disch := omega) only [li_0, li_1, li_2, li_3, li_4, li_5, li_6, li_7, li_8, li_9, li_10, li_11, li_12, li_13, li_14, li_15, li_16, li_17, li_18, li_19, li_20, li_21, li_22, li_23, li_24, li_25, li_26, li_27, li_28, li_29, li_30, li_31, li_32, li_33, li_34, li_35, li_36, li_37, li_38, li_39, li_40, li_41, li_42, li_43, li_44, li_45, li_46, li_47, li_48, li_49, li_50, li_51, li_52, li_53, li_54, li_55, li_56, li_57, li_58, li_59, li_60, li_61, li_62, li_63, li_71, li_72, li_73, li_81, li_82, li_97, li_98, li_99, li_100, li_101, li_102, li_105, li_110, li_111, li_116, li_117, li_126, li_161, li_233, li_932, li_1165, li_10000, li_100000, n_lt_t, n_lt_f, n_eq_t, n_eq_f, nI_add, n_sub, n_mul, n_ix, n_ckd, bnd_e, obn_s, zrk_0, zrk_1, zrk_b, zb_0, zb_1, zb_b, if_true, if_false, Bool.toNat_true, Bool.toNat_false, b0, b1, Bool.false_eq_true, Bool.true_eq_false, b_X9_sectionOf_106, m_of, b3']
      | 6, _ =>
      refine ⟨nI (bS (M (m + 1)) 4 p).toNat, M, M, ?_, ?_, H⟩
      · show f_X8_sectionOf X M _ _ = _
        unfold f_X8_sectionOf
        rw [hasSec_ok h1, g, obn_s, if_neg (by decide)]
        simp (disch := omega) only [li_0, li_1, li_2, li_3, li_4, li_5, li_6, li_7, li_8, li_9, li_10, li_11, li_12, li_13, li_14, li_15, li_16, li_17, li_18, li_19, li_20, li_21, li_22, li_23, li_24, li_25, li_26, li_27, li_28, li_29, li_30, li_31, li_32, li_33, li_34, li_35, li_36, li_37, li_38, li_39, li_40, li_41, li_42, li_43, li_44, li_45, li_46, li_47, li_48, li_49, li_50, li_51, li_52, li_53, li_54, li_55, li_56, li_57, li_58, li_59, li_60, li_61, li_62, li_63, li_71, li_72, li_73, li_81, li_82, li_97, li_98, li_99, li_100, li_101, li_102, li_105, li_110, li_111, li_116, li_117, li_126, li_161, li_233, li_932, li_1165, li_10000, li_100000, n_lt_t, n_lt_f, n_eq_t, n_eq_f, nI_add, n_sub, n_mul, n_ix, n_ckd, bnd_e, obn_s, zrk_0, zrk_1, zrk_b, zb_0, zb_1, zb_b, if_true, if_false, Bool.toNat_true, Bool.toNat_false, b0, b1, Bool.false_eq_true, Bool.true_eq_false, c4, asNumber_ok]
      · show f_X9_sectionOf m M _ _ = _
        unfold f_X9_sectionOf
        rw [m_isSection, g, obn_s, if_neg (by decide), m_in, gy, obn_s, if_neg (by decide)]
        simp (disch := omega) only [li_0, li_1, li_2, li_3, li_4, li_5, li_6, li_7, li_8, li_9, li_10, li_11, li_12, li_13, li_14, li_15, li_16, li_17, li_18, li_19, li_20, li_21, li_22, li_23, li_24, li_25, li_26, li_27, li_28, li_29, li_30, li_31, li_32, li_33, li_34, li_35, li_36, li_37, li_38, li_39, li_40, li_41, li_42, li_43, li_44, li_45, li_46, li_47, li_48, li_49, li_50, li_51, li_52, li_53, li_54, li_55, li_56, li_57, li_58, li_59, li_60, li_61, li_62, li_63, li_71, li_72, li_73, li_81, li_82, li_97, li_98, li_99, li_100, li_101, li_102, li_105, li_110, li_111, li_116, li_117, li_126, li_161, li_233, li_932, li_1165, li_10000, li_100000, n_lt_t, n_lt_f, n_eq_t, n_eq_f, nI_add, n_sub, n_mul, n_ix, n_ckd, bnd_e, obn_s, zrk_0, zrk_1, zrk_b, zb_0, zb_1, zb_b, if_true, if_false, Bool.toNat_true, Bool.toNat_false, b0, b1, Bool.false_eq_true, Bool.true_eq_false, b_X9_sectionOf_106, m_of, b4']
      | 7, _ =>
      refine ⟨aO (M (m + 1)) p 7, M, M, ?_, ?_, H⟩
      · show f_X8_sectionOf X M _ _ = _
        unfold f_X8_sectionOf
        rw [hasSec_ok h1, g, obn_s, if_neg (by decide)]
        simp (disch := omega) only [li_0, li_1, li_2, li_3, li_4, li_5, li_6, li_7, li_8, li_9, li_10, li_11, li_12, li_13, li_14, li_15, li_16, li_17, li_18, li_19, li_20, li_21, li_22, li_23, li_24, li_25, li_26, li_27, li_28, li_29, li_30, li_31, li_32, li_33, li_34, li_35, li_36, li_37, li_38, li_39, li_40, li_41, li_42, li_43, li_44, li_45, li_46, li_47, li_48, li_49, li_50, li_51, li_52, li_53, li_54, li_55, li_56, li_57, li_58, li_59, li_60, li_61, li_62, li_63, li_71, li_72, li_73, li_81, li_82, li_97, li_98, li_99, li_100, li_101, li_102, li_105, li_110, li_111, li_116, li_117, li_126, li_161, li_233, li_932, li_1165, li_10000, li_100000, n_lt_t, n_lt_f, n_eq_t, n_eq_f, nI_add, n_sub, n_mul, n_ix, n_ckd, bnd_e, obn_s, zrk_0, zrk_1, zrk_b, zb_0, zb_1, zb_b, if_true, if_false, Bool.toNat_true, Bool.toNat_false, b0, b1, Bool.false_eq_true, Bool.true_eq_false, c6]
      · show f_X9_sectionOf m M _ _ = _
        unfold f_X9_sectionOf
        rw [m_isSection, g, obn_s, if_neg (by decide), m_in, gy, obn_s, if_neg (by decide)]
        simp (disch := omega) only [li_0, li_1, li_2, li_3, li_4, li_5, li_6, li_7, li_8, li_9, li_10, li_11, li_12, li_13, li_14, li_15, li_16, li_17, li_18, li_19, li_20, li_21, li_22, li_23, li_24, li_25, li_26, li_27, li_28, li_29, li_30, li_31, li_32, li_33, li_34, li_35, li_36, li_37, li_38, li_39, li_40, li_41, li_42, li_43, li_44, li_45, li_46, li_47, li_48, li_49, li_50, li_51, li_52, li_53, li_54, li_55, li_56, li_57, li_58, li_59, li_60, li_61, li_62, li_63, li_71, li_72, li_73, li_81, li_82, li_97, li_98, li_99, li_100, li_101, li_102, li_105, li_110, li_111, li_116, li_117, li_126, li_161, li_233, li_932, li_1165, li_10000, li_100000, n_lt_t, n_lt_f, n_eq_t, n_eq_f, nI_add, n_sub, n_mul, n_ix, n_ckd, bnd_e, obn_s, zrk_0, zrk_1, zrk_b, zb_0, zb_1, zb_b, if_true, if_false, Bool.toNat_true, Bool.toNat_false, b0, b1, Bool.false_eq_true, Bool.true_eq_false, m_of]
      | 8, _ =>
      refine ⟨nI (fb_ct (its (psS (M (m + 1)) k (cS (M (m + 1)))) 10 (fun y => y == p)) 10), M, M, ?_, ?_, H⟩
      · show f_X8_sectionOf X M _ _ = _
        unfold f_X8_sectionOf
        rw [hasSec_ok h1, g, obn_s, if_neg (by decide)]
        simp (disch := omega) only [li_0, li_1, li_2, li_3, li_4, li_5, li_6, li_7, li_8, li_9, li_10, li_11, li_12, li_13, li_14, li_15, li_16, li_17, li_18, li_19, li_20, li_21, li_22, li_23, li_24, li_25, li_26, li_27, li_28, li_29, li_30, li_31, li_32, li_33, li_34, li_35, li_36, li_37, li_38, li_39, li_40, li_41, li_42, li_43, li_44, li_45, li_46, li_47, li_48, li_49, li_50, li_51, li_52, li_53, li_54, li_55, li_56, li_57, li_58, li_59, li_60, li_61, li_62, li_63, li_71, li_72, li_73, li_81, li_82, li_97, li_98, li_99, li_100, li_101, li_102, li_105, li_110, li_111, li_116, li_117, li_126, li_161, li_233, li_932, li_1165, li_10000, li_100000, n_lt_t, n_lt_f, n_eq_t, n_eq_f, nI_add, n_sub, n_mul, n_ix, n_ckd, bnd_e, obn_s, zrk_0, zrk_1, zrk_b, zb_0, zb_1, zb_b, if_true, if_false, Bool.toNat_true, Bool.toNat_false, b0, b1, Bool.false_eq_true, Bool.true_eq_false, gs]
      · show f_X9_sectionOf m M _ _ = _
        unfold f_X9_sectionOf
        rw [m_isSection, g, obn_s, if_neg (by decide), m_in, gy, obn_s, if_neg (by decide)]
        simp (disch := omega) only [li_0, li_1, li_2, li_3, li_4, li_5, li_6, li_7, li_8, li_9, li_10, li_11, li_12, li_13, li_14, li_15, li_16, li_17, li_18, li_19, li_20, li_21, li_22, li_23, li_24, li_25, li_26, li_27, li_28, li_29, li_30, li_31, li_32, li_33, li_34, li_35, li_36, li_37, li_38, li_39, li_40, li_41, li_42, li_43, li_44, li_45, li_46, li_47, li_48, li_49, li_50, li_51, li_52, li_53, li_54, li_55, li_56, li_57, li_58, li_59, li_60, li_61, li_62, li_63, li_71, li_72, li_73, li_81, li_82, li_97, li_98, li_99, li_100, li_101, li_102, li_105, li_110, li_111, li_116, li_117, li_126, li_161, li_233, li_932, li_1165, li_10000, li_100000, n_lt_t, n_lt_f, n_eq_t, n_eq_f, nI_add, n_sub, n_mul, n_ix, n_ckd, bnd_e, obn_s, zrk_0, zrk_1, zrk_b, zb_0, zb_1, zb_b, if_true, if_false, Bool.toNat_true, Bool.toNat_false, b0, b1, Bool.false_eq_true, Bool.true_eq_false, m_closedOnes W, hg, m_bits]
      | 9, _ =>
      refine ⟨nI (fb_ct (fun i => cS (M (m + 1)) i && (uS (M (m + 1)) i == p || vS (M (m + 1)) i == p)) k), M, M, ?_, ?_, H⟩
      · show f_X8_sectionOf X M _ _ = _
        unfold f_X8_sectionOf
        rw [hasSec_ok h1, g, obn_s, if_neg (by decide)]
        simp (disch := omega) only [li_0, li_1, li_2, li_3, li_4, li_5, li_6, li_7, li_8, li_9, li_10, li_11, li_12, li_13, li_14, li_15, li_16, li_17, li_18, li_19, li_20, li_21, li_22, li_23, li_24, li_25, li_26, li_27, li_28, li_29, li_30, li_31, li_32, li_33, li_34, li_35, li_36, li_37, li_38, li_39, li_40, li_41, li_42, li_43, li_44, li_45, li_46, li_47, li_48, li_49, li_50, li_51, li_52, li_53, li_54, li_55, li_56, li_57, li_58, li_59, li_60, li_61, li_62, li_63, li_71, li_72, li_73, li_81, li_82, li_97, li_98, li_99, li_100, li_101, li_102, li_105, li_110, li_111, li_116, li_117, li_126, li_161, li_233, li_932, li_1165, li_10000, li_100000, n_lt_t, n_lt_f, n_eq_t, n_eq_f, nI_add, n_sub, n_mul, n_ix, n_ckd, bnd_e, obn_s, zrk_0, zrk_1, zrk_b, zb_0, zb_1, zb_b, if_true, if_false, Bool.toNat_true, Bool.toNat_false, b0, b1, Bool.false_eq_true, Bool.true_eq_false, ca8]
      · show f_X9_sectionOf m M _ _ = _
        unfold f_X9_sectionOf
        rw [m_isSection, g, obn_s, if_neg (by decide), m_in, gy, obn_s, if_neg (by decide)]
        simp (disch := omega) only [li_0, li_1, li_2, li_3, li_4, li_5, li_6, li_7, li_8, li_9, li_10, li_11, li_12, li_13, li_14, li_15, li_16, li_17, li_18, li_19, li_20, li_21, li_22, li_23, li_24, li_25, li_26, li_27, li_28, li_29, li_30, li_31, li_32, li_33, li_34, li_35, li_36, li_37, li_38, li_39, li_40, li_41, li_42, li_43, li_44, li_45, li_46, li_47, li_48, li_49, li_50, li_51, li_52, li_53, li_54, li_55, li_56, li_57, li_58, li_59, li_60, li_61, li_62, li_63, li_71, li_72, li_73, li_81, li_82, li_97, li_98, li_99, li_100, li_101, li_102, li_105, li_110, li_111, li_116, li_117, li_126, li_161, li_233, li_932, li_1165, li_10000, li_100000, n_lt_t, n_lt_f, n_eq_t, n_eq_f, nI_add, n_sub, n_mul, n_ix, n_ckd, bnd_e, obn_s, zrk_0, zrk_1, zrk_b, zb_0, zb_1, zb_b, if_true, if_false, Bool.toNat_true, Bool.toNat_false, b0, b1, Bool.false_eq_true, Bool.true_eq_false, m_closedAt W (show p < 10 by omega)]
      | 10, _ =>
      cases gb : bS (M (m + 1)) 4 p
      · refine ⟨-nI 4, M, M, ?_, ?_, H⟩
        · show f_X8_sectionOf X M _ _ = _
          unfold f_X8_sectionOf b_X8_sectionOf_200
          rw [hasSec_ok h1, g, obn_s, if_neg (by decide)]
          simp (disch := omega) only [li_0, li_1, li_2, li_3, li_4, li_5, li_6, li_7, li_8, li_9, li_10, li_11, li_12, li_13, li_14, li_15, li_16, li_17, li_18, li_19, li_20, li_21, li_22, li_23, li_24, li_25, li_26, li_27, li_28, li_29, li_30, li_31, li_32, li_33, li_34, li_35, li_36, li_37, li_38, li_39, li_40, li_41, li_42, li_43, li_44, li_45, li_46, li_47, li_48, li_49, li_50, li_51, li_52, li_53, li_54, li_55, li_56, li_57, li_58, li_59, li_60, li_61, li_62, li_63, li_71, li_72, li_73, li_81, li_82, li_97, li_98, li_99, li_100, li_101, li_102, li_105, li_110, li_111, li_116, li_117, li_126, li_161, li_233, li_932, li_1165, li_10000, li_100000, n_lt_t, n_lt_f, n_eq_t, n_eq_f, nI_add, n_sub, n_mul, n_ix, n_ckd, bnd_e, obn_s, zrk_0, zrk_1, zrk_b, zb_0, zb_1, zb_b, if_true, if_false, Bool.toNat_true, Bool.toNat_false, b0, b1, Bool.false_eq_true, Bool.true_eq_false, c4, gb]
        · show f_X9_sectionOf m M _ _ = _
          unfold f_X9_sectionOf b_X9_sectionOf_166
          rw [m_isSection, g, obn_s, if_neg (by decide), m_in, gy, obn_s, if_neg (by decide)]
          simp (disch := omega) only [li_0, li_1, li_2, li_3, li_4, li_5, li_6, li_7, li_8, li_9, li_10, li_11, li_12, li_13, li_14, li_15, li_16, li_17, li_18, li_19, li_20, li_21, li_22, li_23, li_24, li_25, li_26, li_27, li_28, li_29, li_30, li_31, li_32, li_33, li_34, li_35, li_36, li_37, li_38, li_39, li_40, li_41, li_42, li_43, li_44, li_45, li_46, li_47, li_48, li_49, li_50, li_51, li_52, li_53, li_54, li_55, li_56, li_57, li_58, li_59, li_60, li_61, li_62, li_63, li_71, li_72, li_73, li_81, li_82, li_97, li_98, li_99, li_100, li_101, li_102, li_105, li_110, li_111, li_116, li_117, li_126, li_161, li_233, li_932, li_1165, li_10000, li_100000, n_lt_t, n_lt_f, n_eq_t, n_eq_f, nI_add, n_sub, n_mul, n_ix, n_ckd, bnd_e, obn_s, zrk_0, zrk_1, zrk_b, zb_0, zb_1, zb_b, if_true, if_false, Bool.toNat_true, Bool.toNat_false, b0, b1, Bool.false_eq_true, Bool.true_eq_false, m_of, b4', gb]
      · refine ⟨aO (M (m + 1)) p 6, M, M, ?_, ?_, H⟩
        · show f_X8_sectionOf X M _ _ = _
          unfold f_X8_sectionOf b_X8_sectionOf_200
          rw [hasSec_ok h1, g, obn_s, if_neg (by decide)]
          simp (disch := omega) only [li_0, li_1, li_2, li_3, li_4, li_5, li_6, li_7, li_8, li_9, li_10, li_11, li_12, li_13, li_14, li_15, li_16, li_17, li_18, li_19, li_20, li_21, li_22, li_23, li_24, li_25, li_26, li_27, li_28, li_29, li_30, li_31, li_32, li_33, li_34, li_35, li_36, li_37, li_38, li_39, li_40, li_41, li_42, li_43, li_44, li_45, li_46, li_47, li_48, li_49, li_50, li_51, li_52, li_53, li_54, li_55, li_56, li_57, li_58, li_59, li_60, li_61, li_62, li_63, li_71, li_72, li_73, li_81, li_82, li_97, li_98, li_99, li_100, li_101, li_102, li_105, li_110, li_111, li_116, li_117, li_126, li_161, li_233, li_932, li_1165, li_10000, li_100000, n_lt_t, n_lt_f, n_eq_t, n_eq_f, nI_add, n_sub, n_mul, n_ix, n_ckd, bnd_e, obn_s, zrk_0, zrk_1, zrk_b, zb_0, zb_1, zb_b, if_true, if_false, Bool.toNat_true, Bool.toNat_false, b0, b1, Bool.false_eq_true, Bool.true_eq_false, c4, gb, (c5 gb).2]
        · show f_X9_sectionOf m M _ _ = _
          unfold f_X9_sectionOf b_X9_sectionOf_166
          rw [m_isSection, g, obn_s, if_neg (by decide), m_in, gy, obn_s, if_neg (by decide)]
          simp (disch := omega) only [li_0, li_1, li_2, li_3, li_4, li_5, li_6, li_7, li_8, li_9, li_10, li_11, li_12, li_13, li_14, li_15, li_16, li_17, li_18, li_19, li_20, li_21, li_22, li_23, li_24, li_25, li_26, li_27, li_28, li_29, li_30, li_31, li_32, li_33, li_34, li_35, li_36, li_37, li_38, li_39, li_40, li_41, li_42, li_43, li_44, li_45, li_46, li_47, li_48, li_49, li_50, li_51, li_52, li_53, li_54, li_55, li_56, li_57, li_58, li_59, li_60, li_61, li_62, li_63, li_71, li_72, li_73, li_81, li_82, li_97, li_98, li_99, li_100, li_101, li_102, li_105, li_110, li_111, li_116, li_117, li_126, li_161, li_233, li_932, li_1165, li_10000, li_100000, n_lt_t, n_lt_f, n_eq_t, n_eq_f, nI_add, n_sub, n_mul, n_ix, n_ckd, bnd_e, obn_s, zrk_0, zrk_1, zrk_b, zb_0, zb_1, zb_b, if_true, if_false, Bool.toNat_true, Bool.toNat_false, b0, b1, Bool.false_eq_true, Bool.true_eq_false, m_of, b4', gb]
      | t + 11, h => omega
    · have ne : ∀ t : Nat, t ≤ 10 → ¬ y = nI t := fun t ht e => by
        subst e
        refine gy ?_
        unfold inB
        rw [decide_eq_true_eq, show (0 : Int32) = nI 0 from rfl, show (10 : Int32) = nI 10 from rfl, n_lt (by omega) (by omega), n_lt (by omega) (by omega)]
        omega
      have gy : inB y 0 10 = false := by simpa using gy
      refine ⟨-1, M, M, ?_, ?_, H⟩
      · show f_X8_sectionOf X M _ _ = _
        unfold f_X8_sectionOf
        rw [hasSec_ok h1, g, obn_s, if_neg (by decide), if_neg (show ¬ y = 0 from ne 0 (by omega)), if_neg (show ¬ y = 1 from ne 1 (by omega)), if_neg (show ¬ y = 2 from ne 2 (by omega)), if_neg (show ¬ y = 3 from ne 3 (by omega)), if_neg (show ¬ y = 4 from ne 4 (by omega)), if_neg (show ¬ y = 5 from ne 5 (by omega)), if_neg (show ¬ y = 6 from ne 6 (by omega)), if_neg (show ¬ y = 7 from ne 7 (by omega)), if_neg (show ¬ y = 8 from ne 8 (by omega)), if_neg (show ¬ y = 9 from ne 9 (by omega)), if_neg (show ¬ y = 10 from ne 10 (by omega))]
      · show f_X9_sectionOf m M _ _ = _
        unfold f_X9_sectionOf b_X9_sectionOf_18
        rw [m_isSection, g, obn_s, if_neg (by decide), m_in, gy, obn_s, if_pos (by decide)]
  · have g : secB (M (m + 1)) x = false := by simpa using g
    refine ⟨-1, M, M, ?_, ?_, H⟩
    · show f_X8_sectionOf X M _ _ = _
      unfold f_X8_sectionOf
      rw [hasSec_ok h1, g, obn_s, if_pos (by decide)]
    · show f_X9_sectionOf m M _ _ = _
      unfold f_X9_sectionOf b_X9_sectionOf_18
      rw [m_isSection, g, obn_s, if_pos (by decide)]
theorem s_isolatorOf (H : Q M X m) (x y : Int32) : Same X m (fun M => f_X8_isolatorOf X M x y) (fun M => f_X9_isolatorOf m M x y) M := by
  obtain ⟨hm, ⟨n, k, q, h1⟩, -⟩ := id H
  have hn := h1.nlow
  have hk := h1.klow
  have W := h1.1
  by_cases g : isoB (M (m + 1)) x = true
  · obtain ⟨p, hp, rfl⟩ := isoP h1 g
    obtain ⟨⟨i1, -⟩, ⟨i2, -⟩, i3⟩ := h1.2.1.1.2.2 p hp
    obtain ⟨⟨j1, -⟩, ⟨j2, -⟩, j3, -⟩ := W.2.1 p hp
    by_cases gy : inB y 0 5 = true
    · obtain ⟨t, t1, t2, rfl⟩ := in_nat (a := 0) (b := 5) (by omega) (by omega) gy
      match t, t2 with
      | 0, _ =>
      refine ⟨nI (uS (M (m + 1)) p), M, M, ?_, ?_, H⟩
      · show f_X8_isolatorOf X M _ _ = _
        unfold f_X8_isolatorOf
        rw [hasIso_ok h1, g, obn_s, if_neg (by decide)]
        simp (disch := omega) only [li_0, li_1, li_2, li_3, li_4, li_5, li_6, li_7, li_8, li_9, li_10, li_11, li_12, li_13, li_14, li_15, li_16, li_17, li_18, li_19, li_20, li_21, li_22, li_23, li_24, li_25, li_26, li_27, li_28, li_29, li_30, li_31, li_32, li_33, li_34, li_35, li_36, li_37, li_38, li_39, li_40, li_41, li_42, li_43, li_44, li_45, li_46, li_47, li_48, li_49, li_50, li_51, li_52, li_53, li_54, li_55, li_56, li_57, li_58, li_59, li_60, li_61, li_62, li_63, li_71, li_72, li_73, li_81, li_82, li_97, li_98, li_99, li_100, li_101, li_102, li_105, li_110, li_111, li_116, li_117, li_126, li_161, li_233, li_932, li_1165, li_10000, li_100000, n_lt_t, n_lt_f, n_eq_t, n_eq_f, nI_add, n_sub, n_mul, n_ix, n_ckd, bnd_e, obn_s, zrk_0, zrk_1, zrk_b, zb_0, zb_1, zb_b, if_true, if_false, Bool.toNat_true, Bool.toNat_false, b0, b1, Bool.false_eq_true, Bool.true_eq_false, i1]
      · show f_X9_isolatorOf m M _ _ = _
        unfold f_X9_isolatorOf
        rw [m_isIsolator, g, obn_s, if_neg (by decide), m_in, gy, obn_s, if_neg (by decide)]
        simp (disch := omega) only [li_0, li_1, li_2, li_3, li_4, li_5, li_6, li_7, li_8, li_9, li_10, li_11, li_12, li_13, li_14, li_15, li_16, li_17, li_18, li_19, li_20, li_21, li_22, li_23, li_24, li_25, li_26, li_27, li_28, li_29, li_30, li_31, li_32, li_33, li_34, li_35, li_36, li_37, li_38, li_39, li_40, li_41, li_42, li_43, li_44, li_45, li_46, li_47, li_48, li_49, li_50, li_51, li_52, li_53, li_54, li_55, li_56, li_57, li_58, li_59, li_60, li_61, li_62, li_63, li_71, li_72, li_73, li_81, li_82, li_97, li_98, li_99, li_100, li_101, li_102, li_105, li_110, li_111, li_116, li_117, li_126, li_161, li_233, li_932, li_1165, li_10000, li_100000, n_lt_t, n_lt_f, n_eq_t, n_eq_f, nI_add, n_sub, n_mul, n_ix, n_ckd, bnd_e, obn_s, zrk_0, zrk_1, zrk_b, zb_0, zb_1, zb_b, if_true, if_false, Bool.toNat_true, Bool.toNat_false, b0, b1, Bool.false_eq_true, Bool.true_eq_false, m_at, j1]
      | 1, _ =>
      refine ⟨nI (vS (M (m + 1)) p), M, M, ?_, ?_, H⟩
      · show f_X8_isolatorOf X M _ _ = _
        unfold f_X8_isolatorOf
        rw [hasIso_ok h1, g, obn_s, if_neg (by decide)]
        simp (disch := omega) only [li_0, li_1, li_2, li_3, li_4, li_5, li_6, li_7, li_8, li_9, li_10, li_11, li_12, li_13, li_14, li_15, li_16, li_17, li_18, li_19, li_20, li_21, li_22, li_23, li_24, li_25, li_26, li_27, li_28, li_29, li_30, li_31, li_32, li_33, li_34, li_35, li_36, li_37, li_38, li_39, li_40, li_41, li_42, li_43, li_44, li_45, li_46, li_47, li_48, li_49, li_50, li_51, li_52, li_53, li_54, li_55, li_56, li_57, li_58, li_59, li_60, li_61, li_62, li_63, li_71, li_72, li_73, li_81, li_82, li_97, li_98, li_99, li_100, li_101, li_102, li_105, li_110, li_111, li_116, li_117, li_126, li_161, li_233, li_932, li_1165, li_10000, li_100000, n_lt_t, n_lt_f, n_eq_t, n_eq_f, nI_add, n_sub, n_mul, n_ix, n_ckd, bnd_e, obn_s, zrk_0, zrk_1, zrk_b, zb_0, zb_1, zb_b, if_true, if_false, Bool.toNat_true, Bool.toNat_false, b0, b1, Bool.false_eq_true, Bool.true_eq_false, i2]
      · show f_X9_isolatorOf m M _ _ = _
        unfold f_X9_isolatorOf
        rw [m_isIsolator, g, obn_s, if_neg (by decide), m_in, gy, obn_s, if_neg (by decide)]
        simp (disch := omega) only [li_0, li_1, li_2, li_3, li_4, li_5, li_6, li_7, li_8, li_9, li_10, li_11, li_12, li_13, li_14, li_15, li_16, li_17, li_18, li_19, li_20, li_21, li_22, li_23, li_24, li_25, li_26, li_27, li_28, li_29, li_30, li_31, li_32, li_33, li_34, li_35, li_36, li_37, li_38, li_39, li_40, li_41, li_42, li_43, li_44, li_45, li_46, li_47, li_48, li_49, li_50, li_51, li_52, li_53, li_54, li_55, li_56, li_57, li_58, li_59, li_60, li_61, li_62, li_63, li_71, li_72, li_73, li_81, li_82, li_97, li_98, li_99, li_100, li_101, li_102, li_105, li_110, li_111, li_116, li_117, li_126, li_161, li_233, li_932, li_1165, li_10000, li_100000, n_lt_t, n_lt_f, n_eq_t, n_eq_f, nI_add, n_sub, n_mul, n_ix, n_ckd, bnd_e, obn_s, zrk_0, zrk_1, zrk_b, zb_0, zb_1, zb_b, if_true, if_false, Bool.toNat_true, Bool.toNat_false, b0, b1, Bool.false_eq_true, Bool.true_eq_false, m_at, j2]
      | 2, _ =>
      refine ⟨nI (cS (M (m + 1)) p).toNat, M, M, ?_, ?_, H⟩
      · show f_X8_isolatorOf X M _ _ = _
        unfold f_X8_isolatorOf
        rw [hasIso_ok h1, g, obn_s, if_neg (by decide)]
        simp (disch := omega) only [li_0, li_1, li_2, li_3, li_4, li_5, li_6, li_7, li_8, li_9, li_10, li_11, li_12, li_13, li_14, li_15, li_16, li_17, li_18, li_19, li_20, li_21, li_22, li_23, li_24, li_25, li_26, li_27, li_28, li_29, li_30, li_31, li_32, li_33, li_34, li_35, li_36, li_37, li_38, li_39, li_40, li_41, li_42, li_43, li_44, li_45, li_46, li_47, li_48, li_49, li_50, li_51, li_52, li_53, li_54, li_55, li_56, li_57, li_58, li_59, li_60, li_61, li_62, li_63, li_71, li_72, li_73, li_81, li_82, li_97, li_98, li_99, li_100, li_101, li_102, li_105, li_110, li_111, li_116, li_117, li_126, li_161, li_233, li_932, li_1165, li_10000, li_100000, n_lt_t, n_lt_f, n_eq_t, n_eq_f, nI_add, n_sub, n_mul, n_ix, n_ckd, bnd_e, obn_s, zrk_0, zrk_1, zrk_b, zb_0, zb_1, zb_b, if_true, if_false, Bool.toNat_true, Bool.toNat_false, b0, b1, Bool.false_eq_true, Bool.true_eq_false, i3, asNumber_ok]
      · show f_X9_isolatorOf m M _ _ = _
        unfold f_X9_isolatorOf
        rw [m_isIsolator, g, obn_s, if_neg (by decide), m_in, gy, obn_s, if_neg (by decide)]
        simp (disch := omega) only [li_0, li_1, li_2, li_3, li_4, li_5, li_6, li_7, li_8, li_9, li_10, li_11, li_12, li_13, li_14, li_15, li_16, li_17, li_18, li_19, li_20, li_21, li_22, li_23, li_24, li_25, li_26, li_27, li_28, li_29, li_30, li_31, li_32, li_33, li_34, li_35, li_36, li_37, li_38, li_39, li_40, li_41, li_42, li_43, li_44, li_45, li_46, li_47, li_48, li_49, li_50, li_51, li_52, li_53, li_54, li_55, li_56, li_57, li_58, li_59, li_60, li_61, li_62, li_63, li_71, li_72, li_73, li_81, li_82, li_97, li_98, li_99, li_100, li_101, li_102, li_105, li_110, li_111, li_116, li_117, li_126, li_161, li_233, li_932, li_1165, li_10000, li_100000, n_lt_t, n_lt_f, n_eq_t, n_eq_f, nI_add, n_sub, n_mul, n_ix, n_ckd, bnd_e, obn_s, zrk_0, zrk_1, zrk_b, zb_0, zb_1, zb_b, if_true, if_false, Bool.toNat_true, Bool.toNat_false, b0, b1, Bool.false_eq_true, Bool.true_eq_false, m_at, j3]
      | 3, _ =>
      obtain ⟨M1, l1, l2⟩ := closedLog_ok h1 hp
      have e1 : M1 (m + 1) = M (m + 1) := l2 _ (by omega)
      have ms : f_X9_isIsolator m M1 (nI p) = some (nI 1, M1) := by rw [m_isIsolator, e1, g]; rfl
      have W1 : Wf (M1 (m + 1)) n k q := by rw [e1]; exact W
      refine ⟨nI (caS (M (m + 1)) p q).toNat, M1, M1, ?_, ?_, H.scr l2⟩
      · show f_X8_isolatorOf X M _ _ = _
        unfold f_X8_isolatorOf
        rw [hasIso_ok h1, g, obn_s, if_neg (by decide)]
        simp (disch := omega) only [li_0, li_1, li_2, li_3, li_4, li_5, li_6, li_7, li_8, li_9, li_10, li_11, li_12, li_13, li_14, li_15, li_16, li_17, li_18, li_19, li_20, li_21, li_22, li_23, li_24, li_25, li_26, li_27, li_28, li_29, li_30, li_31, li_32, li_33, li_34, li_35, li_36, li_37, li_38, li_39, li_40, li_41, li_42, li_43, li_44, li_45, li_46, li_47, li_48, li_49, li_50, li_51, li_52, li_53, li_54, li_55, li_56, li_57, li_58, li_59, li_60, li_61, li_62, li_63, li_71, li_72, li_73, li_81, li_82, li_97, li_98, li_99, li_100, li_101, li_102, li_105, li_110, li_111, li_116, li_117, li_126, li_161, li_233, li_932, li_1165, li_10000, li_100000, n_lt_t, n_lt_f, n_eq_t, n_eq_f, nI_add, n_sub, n_mul, n_ix, n_ckd, bnd_e, obn_s, zrk_0, zrk_1, zrk_b, zb_0, zb_1, zb_b, if_true, if_false, Bool.toNat_true, Bool.toNat_false, b0, b1, Bool.false_eq_true, Bool.true_eq_false, l1, asNumber_ok]
      · show f_X9_isolatorOf m M1 _ _ = _
        unfold f_X9_isolatorOf
        rw [ms, obn_s, if_neg (by decide), m_in, gy, obn_s, if_neg (by decide)]
        simp (disch := omega) only [li_0, li_1, li_2, li_3, li_4, li_5, li_6, li_7, li_8, li_9, li_10, li_11, li_12, li_13, li_14, li_15, li_16, li_17, li_18, li_19, li_20, li_21, li_22, li_23, li_24, li_25, li_26, li_27, li_28, li_29, li_30, li_31, li_32, li_33, li_34, li_35, li_36, li_37, li_38, li_39, li_40, li_41, li_42, li_43, li_44, li_45, li_46, li_47, li_48, li_49, li_50, li_51, li_52, li_53, li_54, li_55, li_56, li_57, li_58, li_59, li_60, li_61, li_62, li_63, li_71, li_72, li_73, li_81, li_82, li_97, li_98, li_99, li_100, li_101, li_102, li_105, li_110, li_111, li_116, li_117, li_126, li_161, li_233, li_932, li_1165, li_10000, li_100000, n_lt_t, n_lt_f, n_eq_t, n_eq_f, nI_add, n_sub, n_mul, n_ix, n_ckd, bnd_e, obn_s, zrk_0, zrk_1, zrk_b, zb_0, zb_1, zb_b, if_true, if_false, Bool.toNat_true, Bool.toNat_false, b0, b1, Bool.false_eq_true, Bool.true_eq_false, m_closedAgain W1 hp, e1]
      | 4, _ =>
      obtain ⟨M1, l1, l2⟩ := dark_ok h1 hp
      have e1 : M1 (m + 1) = M (m + 1) := l2 _ (by omega)
      have ms : f_X9_isIsolator m M1 (nI p) = some (nI 1, M1) := by rw [m_isIsolator, e1, g]; rfl
      have W1 : Wf (M1 (m + 1)) n k q := by rw [e1]; exact W
      have ce : fb_ct (fun s => lvS (M (m + 1)) n k s && !lwS (M (m + 1)) n k (cOp (M (m + 1)) p) (onx (M (m + 1)) n) s) 10 = fb_ct (fun s => lvS (M (m + 1)) n k s && !lwS (M (m + 1)) n k (cOp (M (m + 1)) p) (onx (M (m + 1)) n) s) n := by
        rw [← ct_10 hn]
        exact fb_ct_cong fun s hs => by
          unfold lvS
          cases decide (s < n) <;> simp
      refine ⟨nI (fb_ct (fun s => lvS (M (m + 1)) n k s && !lwS (M (m + 1)) n k (cOp (M (m + 1)) p) (onx (M (m + 1)) n) s) n), M1, M1, ?_, ?_, H.scr l2⟩
      · show f_X8_isolatorOf X M _ _ = _
        unfold f_X8_isolatorOf
        rw [hasIso_ok h1, g, obn_s, if_neg (by decide)]
        simp (disch := omega) only [li_0, li_1, li_2, li_3, li_4, li_5, li_6, li_7, li_8, li_9, li_10, li_11, li_12, li_13, li_14, li_15, li_16, li_17, li_18, li_19, li_20, li_21, li_22, li_23, li_24, li_25, li_26, li_27, li_28, li_29, li_30, li_31, li_32, li_33, li_34, li_35, li_36, li_37, li_38, li_39, li_40, li_41, li_42, li_43, li_44, li_45, li_46, li_47, li_48, li_49, li_50, li_51, li_52, li_53, li_54, li_55, li_56, li_57, li_58, li_59, li_60, li_61, li_62, li_63, li_71, li_72, li_73, li_81, li_82, li_97, li_98, li_99, li_100, li_101, li_102, li_105, li_110, li_111, li_116, li_117, li_126, li_161, li_233, li_932, li_1165, li_10000, li_100000, n_lt_t, n_lt_f, n_eq_t, n_eq_f, nI_add, n_sub, n_mul, n_ix, n_ckd, bnd_e, obn_s, zrk_0, zrk_1, zrk_b, zb_0, zb_1, zb_b, if_true, if_false, Bool.toNat_true, Bool.toNat_false, b0, b1, Bool.false_eq_true, Bool.true_eq_false, l1]
      · show f_X9_isolatorOf m M1 _ _ = _
        unfold f_X9_isolatorOf
        rw [ms, obn_s, if_neg (by decide), m_in, gy, obn_s, if_neg (by decide)]
        simp (disch := omega) only [li_0, li_1, li_2, li_3, li_4, li_5, li_6, li_7, li_8, li_9, li_10, li_11, li_12, li_13, li_14, li_15, li_16, li_17, li_18, li_19, li_20, li_21, li_22, li_23, li_24, li_25, li_26, li_27, li_28, li_29, li_30, li_31, li_32, li_33, li_34, li_35, li_36, li_37, li_38, li_39, li_40, li_41, li_42, li_43, li_44, li_45, li_46, li_47, li_48, li_49, li_50, li_51, li_52, li_53, li_54, li_55, li_56, li_57, li_58, li_59, li_60, li_61, li_62, li_63, li_71, li_72, li_73, li_81, li_82, li_97, li_98, li_99, li_100, li_101, li_102, li_105, li_110, li_111, li_116, li_117, li_126, li_161, li_233, li_932, li_1165, li_10000, li_100000, n_lt_t, n_lt_f, n_eq_t, n_eq_f, nI_add, n_sub, n_mul, n_ix, n_ckd, bnd_e, obn_s, zrk_0, zrk_1, zrk_b, zb_0, zb_1, zb_b, if_true, if_false, Bool.toNat_true, Bool.toNat_false, b0, b1, Bool.false_eq_true, Bool.true_eq_false, m_liveNow W1, m_lw0 W1 hp, e1, bs_d (show 10 ≤ 32 by omega), m_bits, ce]
      | 5, _ =>
      obtain ⟨M1, l1, l2⟩ := lit_ok h1 hp
      have e1 : M1 (m + 1) = M (m + 1) := l2 _ (by omega)
      have ms : f_X9_isIsolator m M1 (nI p) = some (nI 1, M1) := by rw [m_isIsolator, e1, g]; rfl
      have W1 : Wf (M1 (m + 1)) n k q := by rw [e1]; exact W
      have ce : fb_ct (fun s => lwS (M (m + 1)) n k (cCl (M (m + 1)) p) (onx (M (m + 1)) n) s && !lvS (M (m + 1)) n k s) 10 = fb_ct (fun s => lwS (M (m + 1)) n k (cCl (M (m + 1)) p) (onx (M (m + 1)) n) s && !lvS (M (m + 1)) n k s) n := by
        rw [← ct_10 hn]
        exact fb_ct_cong fun s hs => by
          unfold lwS
          cases decide (s < n) <;> simp
      refine ⟨nI (fb_ct (fun s => lwS (M (m + 1)) n k (cCl (M (m + 1)) p) (onx (M (m + 1)) n) s && !lvS (M (m + 1)) n k s) n), M1, M1, ?_, ?_, H.scr l2⟩
      · show f_X8_isolatorOf X M _ _ = _
        unfold f_X8_isolatorOf
        rw [hasIso_ok h1, g, obn_s, if_neg (by decide)]
        simp (disch := omega) only [li_0, li_1, li_2, li_3, li_4, li_5, li_6, li_7, li_8, li_9, li_10, li_11, li_12, li_13, li_14, li_15, li_16, li_17, li_18, li_19, li_20, li_21, li_22, li_23, li_24, li_25, li_26, li_27, li_28, li_29, li_30, li_31, li_32, li_33, li_34, li_35, li_36, li_37, li_38, li_39, li_40, li_41, li_42, li_43, li_44, li_45, li_46, li_47, li_48, li_49, li_50, li_51, li_52, li_53, li_54, li_55, li_56, li_57, li_58, li_59, li_60, li_61, li_62, li_63, li_71, li_72, li_73, li_81, li_82, li_97, li_98, li_99, li_100, li_101, li_102, li_105, li_110, li_111, li_116, li_117, li_126, li_161, li_233, li_932, li_1165, li_10000, li_100000, n_lt_t, n_lt_f, n_eq_t, n_eq_f, nI_add, n_sub, n_mul, n_ix, n_ckd, bnd_e, obn_s, zrk_0, zrk_1, zrk_b, zb_0, zb_1, zb_b, if_true, if_false, Bool.toNat_true, Bool.toNat_false, b0, b1, Bool.false_eq_true, Bool.true_eq_false, l1]
      · show f_X9_isolatorOf m M1 _ _ = _
        unfold f_X9_isolatorOf
        rw [ms, obn_s, if_neg (by decide), m_in, gy, obn_s, if_neg (by decide)]
        simp (disch := omega) only [li_0, li_1, li_2, li_3, li_4, li_5, li_6, li_7, li_8, li_9, li_10, li_11, li_12, li_13, li_14, li_15, li_16, li_17, li_18, li_19, li_20, li_21, li_22, li_23, li_24, li_25, li_26, li_27, li_28, li_29, li_30, li_31, li_32, li_33, li_34, li_35, li_36, li_37, li_38, li_39, li_40, li_41, li_42, li_43, li_44, li_45, li_46, li_47, li_48, li_49, li_50, li_51, li_52, li_53, li_54, li_55, li_56, li_57, li_58, li_59, li_60, li_61, li_62, li_63, li_71, li_72, li_73, li_81, li_82, li_97, li_98, li_99, li_100, li_101, li_102, li_105, li_110, li_111, li_116, li_117, li_126, li_161, li_233, li_932, li_1165, li_10000, li_100000, n_lt_t, n_lt_f, n_eq_t, n_eq_f, nI_add, n_sub, n_mul, n_ix, n_ckd, bnd_e, obn_s, zrk_0, zrk_1, zrk_b, zb_0, zb_1, zb_b, if_true, if_false, Bool.toNat_true, Bool.toNat_false, b0, b1, Bool.false_eq_true, Bool.true_eq_false, m_liveNow W1, m_lw1 W1 hp, e1, bs_d (show 10 ≤ 32 by omega), m_bits, ce]
      | t + 6, h => omega
    · have ne : ∀ t : Nat, t ≤ 5 → ¬ y = nI t := fun t ht e => by
        subst e
        refine gy ?_
        unfold inB
        rw [decide_eq_true_eq, show (0 : Int32) = nI 0 from rfl, show (5 : Int32) = nI 5 from rfl, n_lt (by omega) (by omega), n_lt (by omega) (by omega)]
        omega
      have gy : inB y 0 5 = false := by simpa using gy
      refine ⟨-1, M, M, ?_, ?_, H⟩
      · show f_X8_isolatorOf X M _ _ = _
        unfold f_X8_isolatorOf
        rw [hasIso_ok h1, g, obn_s, if_neg (by decide), if_neg (show ¬ y = 0 from ne 0 (by omega)), if_neg (show ¬ y = 1 from ne 1 (by omega)), if_neg (show ¬ y = 2 from ne 2 (by omega)), if_neg (show ¬ y = 3 from ne 3 (by omega)), if_neg (show ¬ y = 4 from ne 4 (by omega)), if_neg (show ¬ y = 5 from ne 5 (by omega))]
      · show f_X9_isolatorOf m M _ _ = _
        unfold f_X9_isolatorOf b_X9_isolatorOf_17
        rw [m_isIsolator, g, obn_s, if_neg (by decide), m_in, gy, obn_s, if_pos (by decide)]
  · have g : isoB (M (m + 1)) x = false := by simpa using g
    refine ⟨-1, M, M, ?_, ?_, H⟩
    · show f_X8_isolatorOf X M _ _ = _
      unfold f_X8_isolatorOf
      rw [hasIso_ok h1, g, obn_s, if_pos (by decide)]
    · show f_X9_isolatorOf m M _ _ = _
      unfold f_X9_isolatorOf b_X9_isolatorOf_17
      rw [m_isIsolator, g, obn_s, if_pos (by decide)]
end S9
