/-! the class: joining, what the log makes live, what darkens and lights up -/
section CJ
variable {w : Nat} {M : Mm} {n k q : Nat} {S : Sm}
/-- s hangs together with t -/
def tg (S : Sm) (k s t : Nat) : Bool := its (psS S k (cS S)) 10 (fun y => y == s) t
theorem tg_iff (W : Wf S n k q) {s t : Nat} (hs : s < n) : tg S k s t = true ↔ cn k (uS S) (vS S) (cS S) s t := by
  have hn := W.1.2.1
  have hb : ∀ i, i < k → uS S i < n ∧ vS S i < n := fun i hi => ⟨(W.2.1 i hi).1.2, (W.2.1 i hi).2.1.2⟩
  unfold tg
  rw [its_iff hb (T := fun y => y == s) (fun y hy => by simp at hy; omega) (by omega)]
  constructor
  · rintro ⟨a, h1, h2⟩
    rw [beq_iff_eq] at h1
    rw [← h1]
    exact h2
  · intro h
    exact ⟨s, by simp, h⟩
theorem tgW_ok (h : RW M w S n k q) {s t : Nat} (hs : s < n) (ht : t < n) : f_X2_areTogether (w + 1) M (nI s) (nI t) = some (nI (tg S k s t).toNat, M) := by
  obtain ⟨b, h1, h2⟩ := tog_ok h.2.1 hs ht
  rw [h1, show b = tg S k s t from by rw [Bool.eq_iff_iff, h2, tg_iff h.1 hs]]
/-- s has tools or gear that may not be lit up -/
def gdS (S : Sm) (s : Nat) : Bool := bS S 3 s || decide (nI 0 < aO S s 7)
def enS (S : Sm) (n k x y s : Nat) : Bool := (gdS S s && !lvS S n k s) && ((lvS S n k y && tg S k s x) || (lvS S n k x && tg S k s y))
theorem endang_ok (h : RW M w S n k q) {x y : Nat} (hx : x < n) (hy : y < n) : f_X7_joiningEndangers w M (nI x) (nI y) = some (nI (decide (fb_ct (enS S n k x y) n ≠ 0)).toNat, M) := by
  have hn := h.nlow
  have lvx := h.lv (show x < 10 by omega)
  have lvy := h.lv (show y < 10 by omega)
  unfold f_X7_joiningEndangers
  rw [show (some (nI (decide (fb_ct (enS S n k x y) n ≠ 0)).toNat, M) : OR) = if fb_ct (enS S n k x y) n = 0 then some (nI 0, M) else some (nI 1, M) from by
    by_cases e : fb_ct (enS S n k x y) n = 0
    · rw [if_pos e]; simp [e]
    · rw [if_neg e]; simp [e]]
  refine loop_ex (fun k' (z : Mm × Int32) => l_X7_joiningEndangers_2 w (nI x) (nI y) k' z.1 z.2) (fun i => (M, nI i)) n _ _ _ ?_ ?_ ?_ FU 0 (Nat.zero_le _) (by show _ < 4000; omega) (fun j hj => by omega)
  · intro k' i hi g
    obtain ⟨h1, h2, h3, h4, h5, h6⟩ := h.se hi
    show l_X7_joiningEndangers_2 w (nI x) (nI y) (k' + 1) M (nI i) = l_X7_joiningEndangers_2 w (nI x) (nI y) k' M (nI (i + 1))
    rw [l_X7_joiningEndangers_2]
    simp (disch := omega) only [li_0, li_1, li_2, li_3, li_4, li_5, li_6, li_7, li_8, li_9, li_10, li_11, li_12, li_13, li_14, li_15, li_16, li_17, li_18, li_19, li_20, li_21, li_22, li_23, li_24, li_25, li_26, li_27, li_28, li_29, li_30, li_31, li_32, li_33, li_34, li_35, li_36, li_37, li_38, li_39, li_40, li_41, li_42, li_43, li_44, li_45, li_46, li_47, li_48, li_49, li_50, li_51, li_52, li_53, li_54, li_55, li_56, li_57, li_58, li_59, li_60, li_61, li_62, li_63, li_71, li_72, li_73, li_81, li_82, li_97, li_98, li_99, li_100, li_101, li_102, li_105, li_110, li_111, li_116, li_117, li_126, li_161, li_233, li_932, li_1165, li_10000, li_100000, n_lt_t, n_lt_f, n_eq_t, n_eq_f, nI_add, n_sub, n_mul, n_ix, n_ckd, bnd_e, obn_s, zrk_0, zrk_1, zrk_b, zb_0, zb_1, zb_b, if_true, if_false, Bool.toNat_true, Bool.toNat_false, b0, b1, Bool.false_eq_true, Bool.true_eq_false, h.n0, h3, h6, lvx, lvy, h.lv (show i < 10 by omega), tgW_ok h hi hx, tgW_ok h hi hy, b_X7_joiningEndangers_37, b_X7_joiningEndangers_42, b_X7_joiningEndangers_72, b_X7_joiningEndangers_73, b_X7_joiningEndangers_103, b_X7_joiningEndangers_104, b_X7_joiningEndangers_133, b_X7_joiningEndangers_135]
    revert g
    unfold enS gdS
    generalize tg S k i x = t1
    generalize tg S k i y = t2
    by_cases z : nI 0 < aO S i 7 <;> cases bS S 3 i <;> cases lvS S n k i <;> cases lvS S n k x <;> cases lvS S n k y <;> cases t1 <;> cases t2 <;> simp [z]
  · intro k' i hi g
    obtain ⟨h1, h2, h3, h4, h5, h6⟩ := h.se hi
    show l_X7_joiningEndangers_2 w (nI x) (nI y) (k' + 1) M (nI i) = _
    rw [l_X7_joiningEndangers_2]
    simp (disch := omega) only [li_0, li_1, li_2, li_3, li_4, li_5, li_6, li_7, li_8, li_9, li_10, li_11, li_12, li_13, li_14, li_15, li_16, li_17, li_18, li_19, li_20, li_21, li_22, li_23, li_24, li_25, li_26, li_27, li_28, li_29, li_30, li_31, li_32, li_33, li_34, li_35, li_36, li_37, li_38, li_39, li_40, li_41, li_42, li_43, li_44, li_45, li_46, li_47, li_48, li_49, li_50, li_51, li_52, li_53, li_54, li_55, li_56, li_57, li_58, li_59, li_60, li_61, li_62, li_63, li_71, li_72, li_73, li_81, li_82, li_97, li_98, li_99, li_100, li_101, li_102, li_105, li_110, li_111, li_116, li_117, li_126, li_161, li_233, li_932, li_1165, li_10000, li_100000, n_lt_t, n_lt_f, n_eq_t, n_eq_f, nI_add, n_sub, n_mul, n_ix, n_ckd, bnd_e, obn_s, zrk_0, zrk_1, zrk_b, zb_0, zb_1, zb_b, if_true, if_false, Bool.toNat_true, Bool.toNat_false, b0, b1, Bool.false_eq_true, Bool.true_eq_false, h.n0, h3, h6, lvx, lvy, h.lv (show i < 10 by omega), tgW_ok h hi hx, tgW_ok h hi hy, b_X7_joiningEndangers_37, b_X7_joiningEndangers_42, b_X7_joiningEndangers_72, b_X7_joiningEndangers_73, b_X7_joiningEndangers_103, b_X7_joiningEndangers_104, b_X7_joiningEndangers_133, b_X7_joiningEndangers_135]
    revert g
    unfold enS gdS
    generalize tg S k i x = t1
    generalize tg S k i y = t2
    by_cases z : nI 0 < aO S i 7 <;> cases bS S 3 i <;> cases lvS S n k i <;> cases lvS S n k x <;> cases lvS S n k y <;> cases t1 <;> cases t2 <;> simp [z]
  · intro k'
    show l_X7_joiningEndangers_2 w (nI x) (nI y) (k' + 1) M (nI n) = _
    rw [l_X7_joiningEndangers_2]
    simp (disch := omega) only [li_0, li_1, li_2, li_3, li_4, li_5, li_6, li_7, li_8, li_9, li_10, li_11, li_12, li_13, li_14, li_15, li_16, li_17, li_18, li_19, li_20, li_21, li_22, li_23, li_24, li_25, li_26, li_27, li_28, li_29, li_30, li_31, li_32, li_33, li_34, li_35, li_36, li_37, li_38, li_39, li_40, li_41, li_42, li_43, li_44, li_45, li_46, li_47, li_48, li_49, li_50, li_51, li_52, li_53, li_54, li_55, li_56, li_57, li_58, li_59, li_60, li_61, li_62, li_63, li_71, li_72, li_73, li_81, li_82, li_97, li_98, li_99, li_100, li_101, li_102, li_105, li_110, li_111, li_116, li_117, li_126, li_161, li_233, li_932, li_1165, li_10000, li_100000, n_lt_t, n_lt_f, n_eq_t, n_eq_f, nI_add, n_sub, n_mul, n_ix, n_ckd, bnd_e, obn_s, zrk_0, zrk_1, zrk_b, zb_0, zb_1, zb_b, if_true, if_false, Bool.toNat_true, Bool.toNat_false, b0, b1, Bool.false_eq_true, Bool.true_eq_false, h.n0]
theorem dark_ok (h : RW M w S n k q) {i : Nat} (hi : i < k) : ∃ M', f_X7_darkenedByOpening w M (nI i) = some (nI (fb_ct (fun s => lvS S n k s && !lwS S n k (cOp S i) (onx S n) s) n), M') ∧ Scr w M' M := by
  have hn := h.nlow
  obtain ⟨M', p1, p2, p3⟩ := supIso_ok h hi false
  rw [cOp_e] at p3
  have h' := h.scr p2
  refine ⟨M', ?_, p2⟩
  unfold f_X7_darkenedByOpening
  simp (disch := omega) only [li_0, li_1, li_2, li_3, li_4, li_5, li_6, li_7, li_8, li_9, li_10, li_11, li_12, li_13, li_14, li_15, li_16, li_17, li_18, li_19, li_20, li_21, li_22, li_23, li_24, li_25, li_26, li_27, li_28, li_29, li_30, li_31, li_32, li_33, li_34, li_35, li_36, li_37, li_38, li_39, li_40, li_41, li_42, li_43, li_44, li_45, li_46, li_47, li_48, li_49, li_50, li_51, li_52, li_53, li_54, li_55, li_56, li_57, li_58, li_59, li_60, li_61, li_62, li_63, li_71, li_72, li_73, li_81, li_82, li_97, li_98, li_99, li_100, li_101, li_102, li_105, li_110, li_111, li_116, li_117, li_126, li_161, li_233, li_932, li_1165, li_10000, li_100000, n_lt_t, n_lt_f, n_eq_t, n_eq_f, nI_add, n_sub, n_mul, n_ix, n_ckd, bnd_e, obn_s, zrk_0, zrk_1, zrk_b, zb_0, zb_1, zb_b, if_true, if_false, Bool.toNat_true, Bool.toNat_false, b0, b1, Bool.false_eq_true, Bool.true_eq_false] at p1
  simp (disch := omega) only [li_0, li_1, li_2, li_3, li_4, li_5, li_6, li_7, li_8, li_9, li_10, li_11, li_12, li_13, li_14, li_15, li_16, li_17, li_18, li_19, li_20, li_21, li_22, li_23, li_24, li_25, li_26, li_27, li_28, li_29, li_30, li_31, li_32, li_33, li_34, li_35, li_36, li_37, li_38, li_39, li_40, li_41, li_42, li_43, li_44, li_45, li_46, li_47, li_48, li_49, li_50, li_51, li_52, li_53, li_54, li_55, li_56, li_57, li_58, li_59, li_60, li_61, li_62, li_63, li_71, li_72, li_73, li_81, li_82, li_97, li_98, li_99, li_100, li_101, li_102, li_105, li_110, li_111, li_116, li_117, li_126, li_161, li_233, li_932, li_1165, li_10000, li_100000, n_lt_t, n_lt_f, n_eq_t, n_eq_f, nI_add, n_sub, n_mul, n_ix, n_ckd, bnd_e, obn_s, zrk_0, zrk_1, zrk_b, zb_0, zb_1, zb_b, if_true, if_false, Bool.toNat_true, Bool.toNat_false, b0, b1, Bool.false_eq_true, Bool.true_eq_false, p1]
  refine loop_up (fun k' (z : Mm × Int32 × Int32) => l_X7_darkenedByOpening_10 w k' z.1 z.2.1 z.2.2) (fun j => (M', nI (fb_ct (fun s => lvS S n k s && !lwS S n k (cOp S i) (onx S n) s) j), nI j)) n _ ?_ ?_ FU 0 (Nat.zero_le _) (by show _ < 4000; omega)
  · intro k' j hj
    show l_X7_darkenedByOpening_10 w (k' + 1) M' _ (nI j) = l_X7_darkenedByOpening_10 w k' M' _ (nI (j + 1))
    rw [l_X7_darkenedByOpening_10, fb_ct_succ]
    have e := darken_ok h' p3 (show j < 10 by omega)
    rw [nlv_e] at e
    have e' : f_X7_wouldDarken w M' (nI j) = some (nI (lvS S n k j && !lwS S n k (cOp S i) (onx S n) j).toNat, M') := e
    simp (disch := omega) only [li_0, li_1, li_2, li_3, li_4, li_5, li_6, li_7, li_8, li_9, li_10, li_11, li_12, li_13, li_14, li_15, li_16, li_17, li_18, li_19, li_20, li_21, li_22, li_23, li_24, li_25, li_26, li_27, li_28, li_29, li_30, li_31, li_32, li_33, li_34, li_35, li_36, li_37, li_38, li_39, li_40, li_41, li_42, li_43, li_44, li_45, li_46, li_47, li_48, li_49, li_50, li_51, li_52, li_53, li_54, li_55, li_56, li_57, li_58, li_59, li_60, li_61, li_62, li_63, li_71, li_72, li_73, li_81, li_82, li_97, li_98, li_99, li_100, li_101, li_102, li_105, li_110, li_111, li_116, li_117, li_126, li_161, li_233, li_932, li_1165, li_10000, li_100000, n_lt_t, n_lt_f, n_eq_t, n_eq_f, nI_add, n_sub, n_mul, n_ix, n_ckd, bnd_e, obn_s, zrk_0, zrk_1, zrk_b, zb_0, zb_1, zb_b, if_true, if_false, Bool.toNat_true, Bool.toNat_false, b0, b1, Bool.false_eq_true, Bool.true_eq_false, h'.n0, e', b_X7_darkenedByOpening_32]
    cases (lvS S n k j && !lwS S n k (cOp S i) (onx S n) j) <;> simp
  · intro k'
    show l_X7_darkenedByOpening_10 w (k' + 1) M' _ (nI n) = _
    rw [l_X7_darkenedByOpening_10]
    simp (disch := omega) only [li_0, li_1, li_2, li_3, li_4, li_5, li_6, li_7, li_8, li_9, li_10, li_11, li_12, li_13, li_14, li_15, li_16, li_17, li_18, li_19, li_20, li_21, li_22, li_23, li_24, li_25, li_26, li_27, li_28, li_29, li_30, li_31, li_32, li_33, li_34, li_35, li_36, li_37, li_38, li_39, li_40, li_41, li_42, li_43, li_44, li_45, li_46, li_47, li_48, li_49, li_50, li_51, li_52, li_53, li_54, li_55, li_56, li_57, li_58, li_59, li_60, li_61, li_62, li_63, li_71, li_72, li_73, li_81, li_82, li_97, li_98, li_99, li_100, li_101, li_102, li_105, li_110, li_111, li_116, li_117, li_126, li_161, li_233, li_932, li_1165, li_10000, li_100000, n_lt_t, n_lt_f, n_eq_t, n_eq_f, nI_add, n_sub, n_mul, n_ix, n_ckd, bnd_e, obn_s, zrk_0, zrk_1, zrk_b, zb_0, zb_1, zb_b, if_true, if_false, Bool.toNat_true, Bool.toNat_false, b0, b1, Bool.false_eq_true, Bool.true_eq_false, h'.n0]
theorem lit_ok (h : RW M w S n k q) {i : Nat} (hi : i < k) : ∃ M', f_X7_litByClosing w M (nI i) = some (nI (fb_ct (fun s => lwS S n k (cCl S i) (onx S n) s && !lvS S n k s) n), M') ∧ Scr w M' M := by
  have hn := h.nlow
  obtain ⟨M', p1, p2, p3⟩ := supIso_ok h hi true
  rw [cCl_e] at p3
  have h' := h.scr p2
  refine ⟨M', ?_, p2⟩
  unfold f_X7_litByClosing
  simp (disch := omega) only [li_0, li_1, li_2, li_3, li_4, li_5, li_6, li_7, li_8, li_9, li_10, li_11, li_12, li_13, li_14, li_15, li_16, li_17, li_18, li_19, li_20, li_21, li_22, li_23, li_24, li_25, li_26, li_27, li_28, li_29, li_30, li_31, li_32, li_33, li_34, li_35, li_36, li_37, li_38, li_39, li_40, li_41, li_42, li_43, li_44, li_45, li_46, li_47, li_48, li_49, li_50, li_51, li_52, li_53, li_54, li_55, li_56, li_57, li_58, li_59, li_60, li_61, li_62, li_63, li_71, li_72, li_73, li_81, li_82, li_97, li_98, li_99, li_100, li_101, li_102, li_105, li_110, li_111, li_116, li_117, li_126, li_161, li_233, li_932, li_1165, li_10000, li_100000, n_lt_t, n_lt_f, n_eq_t, n_eq_f, nI_add, n_sub, n_mul, n_ix, n_ckd, bnd_e, obn_s, zrk_0, zrk_1, zrk_b, zb_0, zb_1, zb_b, if_true, if_false, Bool.toNat_true, Bool.toNat_false, b0, b1, Bool.false_eq_true, Bool.true_eq_false] at p1
  simp (disch := omega) only [li_0, li_1, li_2, li_3, li_4, li_5, li_6, li_7, li_8, li_9, li_10, li_11, li_12, li_13, li_14, li_15, li_16, li_17, li_18, li_19, li_20, li_21, li_22, li_23, li_24, li_25, li_26, li_27, li_28, li_29, li_30, li_31, li_32, li_33, li_34, li_35, li_36, li_37, li_38, li_39, li_40, li_41, li_42, li_43, li_44, li_45, li_46, li_47, li_48, li_49, li_50, li_51, li_52, li_53, li_54, li_55, li_56, li_57, li_58, li_59, li_60, li_61, li_62, li_63, li_71, li_72, li_73, li_81, li_82, li_97, li_98, li_99, li_100, li_101, li_102, li_105, li_110, li_111, li_116, li_117, li_126, li_161, li_233, li_932, li_1165, li_10000, li_100000, n_lt_t, n_lt_f, n_eq_t, n_eq_f, nI_add, n_sub, n_mul, n_ix, n_ckd, bnd_e, obn_s, zrk_0, zrk_1, zrk_b, zb_0, zb_1, zb_b, if_true, if_false, Bool.toNat_true, Bool.toNat_false, b0, b1, Bool.false_eq_true, Bool.true_eq_false, p1]
  refine loop_up (fun k' (z : Mm × Int32 × Int32) => l_X7_litByClosing_10 w k' z.1 z.2.1 z.2.2) (fun j => (M', nI (fb_ct (fun s => lwS S n k (cCl S i) (onx S n) s && !lvS S n k s) j), nI j)) n _ ?_ ?_ FU 0 (Nat.zero_le _) (by show _ < 4000; omega)
  · intro k' j hj
    show l_X7_litByClosing_10 w (k' + 1) M' _ (nI j) = l_X7_litByClosing_10 w k' M' _ (nI (j + 1))
    rw [l_X7_litByClosing_10, fb_ct_succ]
    have e := light_ok h' p3 (show j < 10 by omega)
    rw [nlv_e] at e
    have e' : f_X7_wouldLight w M' (nI j) = some (nI (lwS S n k (cCl S i) (onx S n) j && !lvS S n k j).toNat, M') := e
    simp (disch := omega) only [li_0, li_1, li_2, li_3, li_4, li_5, li_6, li_7, li_8, li_9, li_10, li_11, li_12, li_13, li_14, li_15, li_16, li_17, li_18, li_19, li_20, li_21, li_22, li_23, li_24, li_25, li_26, li_27, li_28, li_29, li_30, li_31, li_32, li_33, li_34, li_35, li_36, li_37, li_38, li_39, li_40, li_41, li_42, li_43, li_44, li_45, li_46, li_47, li_48, li_49, li_50, li_51, li_52, li_53, li_54, li_55, li_56, li_57, li_58, li_59, li_60, li_61, li_62, li_63, li_71, li_72, li_73, li_81, li_82, li_97, li_98, li_99, li_100, li_101, li_102, li_105, li_110, li_111, li_116, li_117, li_126, li_161, li_233, li_932, li_1165, li_10000, li_100000, n_lt_t, n_lt_f, n_eq_t, n_eq_f, nI_add, n_sub, n_mul, n_ix, n_ckd, bnd_e, obn_s, zrk_0, zrk_1, zrk_b, zb_0, zb_1, zb_b, if_true, if_false, Bool.toNat_true, Bool.toNat_false, b0, b1, Bool.false_eq_true, Bool.true_eq_false, h'.n0, e', b_X7_litByClosing_32]
    cases (lwS S n k (cCl S i) (onx S n) j && !lvS S n k j) <;> simp
  · intro k'
    show l_X7_litByClosing_10 w (k' + 1) M' _ (nI n) = _
    rw [l_X7_litByClosing_10]
    simp (disch := omega) only [li_0, li_1, li_2, li_3, li_4, li_5, li_6, li_7, li_8, li_9, li_10, li_11, li_12, li_13, li_14, li_15, li_16, li_17, li_18, li_19, li_20, li_21, li_22, li_23, li_24, li_25, li_26, li_27, li_28, li_29, li_30, li_31, li_32, li_33, li_34, li_35, li_36, li_37, li_38, li_39, li_40, li_41, li_42, li_43, li_44, li_45, li_46, li_47, li_48, li_49, li_50, li_51, li_52, li_53, li_54, li_55, li_56, li_57, li_58, li_59, li_60, li_61, li_62, li_63, li_71, li_72, li_73, li_81, li_82, li_97, li_98, li_99, li_100, li_101, li_102, li_105, li_110, li_111, li_116, li_117, li_126, li_161, li_233, li_932, li_1165, li_10000, li_100000, n_lt_t, n_lt_f, n_eq_t, n_eq_f, nI_add, n_sub, n_mul, n_ix, n_ckd, bnd_e, obn_s, zrk_0, zrk_1, zrk_b, zb_0, zb_1, zb_b, if_true, if_false, Bool.toNat_true, Bool.toNat_false, b0, b1, Bool.false_eq_true, Bool.true_eq_false, h'.n0]
/-- one pass outward -/
theorem outward_ok (h : RW M w S n k q) (hc : ∀ i, i < k → zb (M (w + 16 + 7) i) = nI (caS S i q).toNat) (g : Nat → Int32) (T : Nat → Bool) (hg : ∀ s, s < n → zb (g s) = nI (T s).toNat) :
    ∃ g', f_X7_goOutward w (mrow M (w + 31) g) = some (nI 0, mrow M (w + 31) g') ∧ ∀ s, s < n → zb (g' s) = nI (psS S k (fun i => caS S i q) T s).toNat := by
  have hn := h.nlow
  have hk := h.klow
  have run : ∀ d i, i + d = k → ∀ k' (g : Nat → Int32), d < k' → (∀ s, s < n → zb (g s) = nI (ps (uS S) (vS S) (fun i => caS S i q) i T s).toNat) →
      ∃ g', l_X7_goOutward_2 w k' (mrow M (w + 31) g) (nI i) = some (nI 0, mrow M (w + 31) g') ∧ ∀ s, s < n → zb (g' s) = nI (psS S k (fun i => caS S i q) T s).toNat := by
    intro d
    induction d with
    | zero =>
      intro i hi k' g hk' hg
      have hi : i = k := by omega
      subst hi
      obtain ⟨k'', rfl⟩ : ∃ x, k' = x + 1 := ⟨k' - 1, by omega⟩
      refine ⟨g, ?_, hg⟩
      rw [l_X7_goOutward_2]
      simp (disch := omega) only [li_0, li_1, li_2, li_3, li_4, li_5, li_6, li_7, li_8, li_9, li_10, li_11, li_12, li_13, li_14, li_15, li_16, li_17, li_18, li_19, li_20, li_21, li_22, li_23, li_24, li_25, li_26, li_27, li_28, li_29, li_30, li_31, li_32, li_33, li_34, li_35, li_36, li_37, li_38, li_39, li_40, li_41, li_42, li_43, li_44, li_45, li_46, li_47, li_48, li_49, li_50, li_51, li_52, li_53, li_54, li_55, li_56, li_57, li_58, li_59, li_60, li_61, li_62, li_63, li_71, li_72, li_73, li_81, li_82, li_97, li_98, li_99, li_100, li_101, li_102, li_105, li_110, li_111, li_116, li_117, li_126, li_161, li_233, li_932, li_1165, li_10000, li_100000, n_lt_t, n_lt_f, n_eq_t, n_eq_f, nI_add, n_sub, n_mul, n_ix, n_ckd, bnd_e, obn_s, zrk_0, zrk_1, zrk_b, zb_0, zb_1, zb_b, if_true, if_false, Bool.toNat_true, Bool.toNat_false, b0, b1, Bool.false_eq_true, Bool.true_eq_false, mrow_n, h.k0]
    | succ d ih =>
      intro i hi k' g hk' hg
      obtain ⟨k'', rfl⟩ : ∃ x, k' = x + 1 := ⟨k' - 1, by omega⟩
      obtain ⟨⟨u1, u2⟩, ⟨v1, v2⟩, -⟩ := h.2.1.1.2.2 i (by omega)
      have hu := hg (uS S i) u2
      have hv := hg (vS S i) v2
      have ext : ∀ g2 : Nat → Int32, (∀ s, s < n → zb (g2 s) = nI (ps (uS S) (vS S) (fun i => caS S i q) (i + 1) T s).toNat) → ∃ g', l_X7_goOutward_2 w k'' (mrow M (w + 31) g2) (nI (i + 1)) = some (nI 0, mrow M (w + 31) g') ∧ ∀ s, s < n → zb (g' s) = nI (psS S k (fun i => caS S i q) T s).toNat := fun g2 hg2 => ih (i + 1) (by omega) k'' g2 (by omega) hg2
      have same : (caS S i q && (ps (uS S) (vS S) (fun i => caS S i q) i T (uS S i) || ps (uS S) (vS S) (fun i => caS S i q) i T (vS S i))) = false → ∀ s, s < n → zb (g s) = nI (ps (uS S) (vS S) (fun i => caS S i q) (i + 1) T s).toNat := fun e s hs => by
        rw [hg s hs]
        simp only [ps, e, Bool.false_and, Bool.or_false]
      have more : (caS S i q && (ps (uS S) (vS S) (fun i => caS S i q) i T (uS S i) || ps (uS S) (vS S) (fun i => caS S i q) i T (vS S i))) = true → ∀ s, s < n → zb (upd (upd g (uS S i) (nI 1)) (vS S i) (nI 1) s) = nI (ps (uS S) (vS S) (fun i => caS S i q) (i + 1) T s).toNat := fun e s hs => by
        simp only [ps, e, Bool.true_and]
        by_cases a1 : s = vS S i
        · rw [a1, upd_at]; simp; rfl
        · rw [upd_n a1]
          by_cases a2 : s = uS S i
          · rw [a2, upd_at]; simp; rfl
          · rw [upd_n a2, hg s hs]
            rw [beq_eq_false_iff_ne.mpr a1, beq_eq_false_iff_ne.mpr a2, Bool.or_false, Bool.or_false]
      rw [l_X7_goOutward_2]
      simp (disch := omega) only [li_0, li_1, li_2, li_3, li_4, li_5, li_6, li_7, li_8, li_9, li_10, li_11, li_12, li_13, li_14, li_15, li_16, li_17, li_18, li_19, li_20, li_21, li_22, li_23, li_24, li_25, li_26, li_27, li_28, li_29, li_30, li_31, li_32, li_33, li_34, li_35, li_36, li_37, li_38, li_39, li_40, li_41, li_42, li_43, li_44, li_45, li_46, li_47, li_48, li_49, li_50, li_51, li_52, li_53, li_54, li_55, li_56, li_57, li_58, li_59, li_60, li_61, li_62, li_63, li_71, li_72, li_73, li_81, li_82, li_97, li_98, li_99, li_100, li_101, li_102, li_105, li_110, li_111, li_116, li_117, li_126, li_161, li_233, li_932, li_1165, li_10000, li_100000, n_lt_t, n_lt_f, n_eq_t, n_eq_f, nI_add, n_sub, n_mul, n_ix, n_ckd, bnd_e, obn_s, zrk_0, zrk_1, zrk_b, zb_0, zb_1, zb_b, if_true, if_false, Bool.toNat_true, Bool.toNat_false, b0, b1, Bool.false_eq_true, Bool.true_eq_false, mrow_n, mrow_at, h.k0, u1, v1, hc, hu, hv, b_X7_goOutward_63, b_X7_goOutward_77, mst_mrow]
      cases e0 : caS S i q
      · simp only [if_true]
        exact ext g (same (by rw [e0]; rfl))
      · cases e1 : ps (uS S) (vS S) (fun i => caS S i q) i T (uS S i)
        · cases e2 : ps (uS S) (vS S) (fun i => caS S i q) i T (vS S i)
          · simp only [if_true, Bool.true_eq_false, if_false]
            exact ext g (same (by rw [e0, e1, e2]; rfl))
          · simp only [if_true, Bool.true_eq_false, if_false]
            exact ext _ (more (by rw [e0, e1, e2]; rfl))
        · simp only [Bool.true_eq_false, if_false]
          exact ext _ (more (by rw [e0, e1]; rfl))
  exact run k 0 (by omega) FU g (by show _ < 4000; omega) hg
theorem liveLog_ok (h : RW M w S n k q) {s : Nat} (hs : s < n) : ∃ M', f_X7_isLiveByLog w M (nI s) = some (nI (laS S n k q s).toNat, M') ∧ Scr w M' M := by
  have hn := h.nlow
  have hk := h.klow
  obtain ⟨M1, p1, p2, p3, p4⟩ := tellW_ok h
  have h' := h.scr p4
  have hb : ∀ i, i < k → uS S i < n ∧ vS S i < n := fun i hi => ⟨(h.1.2.1 i hi).1.2, (h.1.2.1 i hi).2.1.2⟩
  generalize hT : (fun s => decide (s < n) && oaS S s q) = T
  have rounds : ∀ d r, r + 1 + d = n → ∀ k' (g : Nat → Int32), d < k' → (∀ s, s < n → zb (g s) = nI (its (psS S k (fun i => caS S i q)) r T s).toNat) →
      ∃ g', l_X7_isLiveByLog_52 w (nI s) k' (mrow M1 (w + 31) g) (nI (r + 1)) = some (nI (its (psS S k (fun i => caS S i q)) (n - 1) T s).toNat, mrow M1 (w + 31) g') := by
    intro d
    induction d with
    | zero =>
      intro r hr k' g hk' hg
      obtain ⟨k'', rfl⟩ : ∃ x, k' = x + 1 := ⟨k' - 1, by omega⟩
      refine ⟨g, ?_⟩
      rw [l_X7_isLiveByLog_52, show r + 1 = n by omega]
      simp (disch := omega) only [li_0, li_1, li_2, li_3, li_4, li_5, li_6, li_7, li_8, li_9, li_10, li_11, li_12, li_13, li_14, li_15, li_16, li_17, li_18, li_19, li_20, li_21, li_22, li_23, li_24, li_25, li_26, li_27, li_28, li_29, li_30, li_31, li_32, li_33, li_34, li_35, li_36, li_37, li_38, li_39, li_40, li_41, li_42, li_43, li_44, li_45, li_46, li_47, li_48, li_49, li_50, li_51, li_52, li_53, li_54, li_55, li_56, li_57, li_58, li_59, li_60, li_61, li_62, li_63, li_71, li_72, li_73, li_81, li_82, li_97, li_98, li_99, li_100, li_101, li_102, li_105, li_110, li_111, li_116, li_117, li_126, li_161, li_233, li_932, li_1165, li_10000, li_100000, n_lt_t, n_lt_f, n_eq_t, n_eq_f, nI_add, n_sub, n_mul, n_ix, n_ckd, bnd_e, obn_s, zrk_0, zrk_1, zrk_b, zb_0, zb_1, zb_b, if_true, if_false, Bool.toNat_true, Bool.toNat_false, b0, b1, Bool.false_eq_true, Bool.true_eq_false, mrow_n, mrow_at, h'.n0, hg]
      rw [show n - 1 = r by omega]
    | succ d ih =>
      intro r hr k' g hk' hg
      obtain ⟨k'', rfl⟩ : ∃ x, k' = x + 1 := ⟨k' - 1, by omega⟩
      obtain ⟨g2, e1, e2⟩ := outward_ok h' p3 g _ hg
      obtain ⟨g', e3⟩ := ih (r + 1) (by omega) k'' g2 (by omega) e2
      refine ⟨g', ?_⟩
      rw [l_X7_isLiveByLog_52]
      simp (disch := omega) only [li_0, li_1, li_2, li_3, li_4, li_5, li_6, li_7, li_8, li_9, li_10, li_11, li_12, li_13, li_14, li_15, li_16, li_17, li_18, li_19, li_20, li_21, li_22, li_23, li_24, li_25, li_26, li_27, li_28, li_29, li_30, li_31, li_32, li_33, li_34, li_35, li_36, li_37, li_38, li_39, li_40, li_41, li_42, li_43, li_44, li_45, li_46, li_47, li_48, li_49, li_50, li_51, li_52, li_53, li_54, li_55, li_56, li_57, li_58, li_59, li_60, li_61, li_62, li_63, li_71, li_72, li_73, li_81, li_82, li_97, li_98, li_99, li_100, li_101, li_102, li_105, li_110, li_111, li_116, li_117, li_126, li_161, li_233, li_932, li_1165, li_10000, li_100000, n_lt_t, n_lt_f, n_eq_t, n_eq_f, nI_add, n_sub, n_mul, n_ix, n_ckd, bnd_e, obn_s, zrk_0, zrk_1, zrk_b, zb_0, zb_1, zb_b, if_true, if_false, Bool.toNat_true, Bool.toNat_false, b0, b1, Bool.false_eq_true, Bool.true_eq_false, mrow_n, h'.n0, e1, e3]
  have e10 : its (psS S k (fun i => caS S i q)) (n - 1) T s = laS S n k q s := by
    unfold laS
    rw [hT, Bool.eq_iff_iff, its_iff hb (fun x hx => by rw [← hT] at hx; simp at hx; exact hx.1) (by omega), its_iff hb (fun x hx => by rw [← hT] at hx; simp at hx; exact hx.1) (by omega)]
  have fill : ∀ d j, j + d = n → ∀ k' (g : Nat → Int32), d < k' → (∀ s, s < j → zb (g s) = nI (T s).toNat) →
      ∃ g', l_X7_isLiveByLog_9 w (nI s) k' (mrow M1 (w + 31) g) (nI j) = some (nI (laS S n k q s).toNat, mrow M1 (w + 31) g') := by
    intro d
    induction d with
    | zero =>
      intro j hj k' g hk' hg
      have hj : j = n := by omega
      subst hj
      obtain ⟨k'', rfl⟩ : ∃ x, k' = x + 1 := ⟨k' - 1, by omega⟩
      obtain ⟨g', e1⟩ := rounds (j - 1) 0 (by omega) FU g (by show _ < 4000; omega) hg
      refine ⟨g', ?_⟩
      rw [l_X7_isLiveByLog_9]
      simp (disch := omega) only [li_0, li_1, li_2, li_3, li_4, li_5, li_6, li_7, li_8, li_9, li_10, li_11, li_12, li_13, li_14, li_15, li_16, li_17, li_18, li_19, li_20, li_21, li_22, li_23, li_24, li_25, li_26, li_27, li_28, li_29, li_30, li_31, li_32, li_33, li_34, li_35, li_36, li_37, li_38, li_39, li_40, li_41, li_42, li_43, li_44, li_45, li_46, li_47, li_48, li_49, li_50, li_51, li_52, li_53, li_54, li_55, li_56, li_57, li_58, li_59, li_60, li_61, li_62, li_63, li_71, li_72, li_73, li_81, li_82, li_97, li_98, li_99, li_100, li_101, li_102, li_105, li_110, li_111, li_116, li_117, li_126, li_161, li_233, li_932, li_1165, li_10000, li_100000, n_lt_t, n_lt_f, n_eq_t, n_eq_f, nI_add, n_sub, n_mul, n_ix, n_ckd, bnd_e, obn_s, zrk_0, zrk_1, zrk_b, zb_0, zb_1, zb_b, if_true, if_false, Bool.toNat_true, Bool.toNat_false, b0, b1, Bool.false_eq_true, Bool.true_eq_false, mrow_n, h'.n0]
      rw [← e10]
      exact e1
    | succ d ih =>
      intro j hj k' g hk' hg
      obtain ⟨k'', rfl⟩ : ∃ x, k' = x + 1 := ⟨k' - 1, by omega⟩
      have hjn : j < n := by omega
      have e2 := p2 j hjn
      have hup : ∀ s', s' < j + 1 → zb (upd g j (nI (oaS S j q).toNat) s') = nI (T s').toNat := fun s' hs' => by
        by_cases a : s' = j
        · subst a
          rw [upd_at, zb_b, ← hT]
          simp [hjn]
        · rw [upd_n a]
          exact hg s' (by omega)
      obtain ⟨g', e3⟩ := ih (j + 1) (by omega) k'' _ (by omega) hup
      refine ⟨g', ?_⟩
      rw [l_X7_isLiveByLog_9]
      simp (disch := omega) only [li_0, li_1, li_2, li_3, li_4, li_5, li_6, li_7, li_8, li_9, li_10, li_11, li_12, li_13, li_14, li_15, li_16, li_17, li_18, li_19, li_20, li_21, li_22, li_23, li_24, li_25, li_26, li_27, li_28, li_29, li_30, li_31, li_32, li_33, li_34, li_35, li_36, li_37, li_38, li_39, li_40, li_41, li_42, li_43, li_44, li_45, li_46, li_47, li_48, li_49, li_50, li_51, li_52, li_53, li_54, li_55, li_56, li_57, li_58, li_59, li_60, li_61, li_62, li_63, li_71, li_72, li_73, li_81, li_82, li_97, li_98, li_99, li_100, li_101, li_102, li_105, li_110, li_111, li_116, li_117, li_126, li_161, li_233, li_932, li_1165, li_10000, li_100000, n_lt_t, n_lt_f, n_eq_t, n_eq_f, nI_add, n_sub, n_mul, n_ix, n_ckd, bnd_e, obn_s, zrk_0, zrk_1, zrk_b, zb_0, zb_1, zb_b, if_true, if_false, Bool.toNat_true, Bool.toNat_false, b0, b1, Bool.false_eq_true, Bool.true_eq_false, mrow_n, mrow_at, h'.n0, e2, b_X7_isLiveByLog_43, mst_mrow]
      cases e4 : oaS S j q
      · rw [e4] at e3
        simp (disch := omega) only [li_0, li_1, li_2, li_3, li_4, li_5, li_6, li_7, li_8, li_9, li_10, li_11, li_12, li_13, li_14, li_15, li_16, li_17, li_18, li_19, li_20, li_21, li_22, li_23, li_24, li_25, li_26, li_27, li_28, li_29, li_30, li_31, li_32, li_33, li_34, li_35, li_36, li_37, li_38, li_39, li_40, li_41, li_42, li_43, li_44, li_45, li_46, li_47, li_48, li_49, li_50, li_51, li_52, li_53, li_54, li_55, li_56, li_57, li_58, li_59, li_60, li_61, li_62, li_63, li_71, li_72, li_73, li_81, li_82, li_97, li_98, li_99, li_100, li_101, li_102, li_105, li_110, li_111, li_116, li_117, li_126, li_161, li_233, li_932, li_1165, li_10000, li_100000, n_lt_t, n_lt_f, n_eq_t, n_eq_f, nI_add, n_sub, n_mul, n_ix, n_ckd, bnd_e, obn_s, zrk_0, zrk_1, zrk_b, zb_0, zb_1, zb_b, if_true, if_false, Bool.toNat_true, Bool.toNat_false, b0, b1, Bool.false_eq_true, Bool.true_eq_false]
        exact e3
      · rw [e4] at e3
        simp (disch := omega) only [li_0, li_1, li_2, li_3, li_4, li_5, li_6, li_7, li_8, li_9, li_10, li_11, li_12, li_13, li_14, li_15, li_16, li_17, li_18, li_19, li_20, li_21, li_22, li_23, li_24, li_25, li_26, li_27, li_28, li_29, li_30, li_31, li_32, li_33, li_34, li_35, li_36, li_37, li_38, li_39, li_40, li_41, li_42, li_43, li_44, li_45, li_46, li_47, li_48, li_49, li_50, li_51, li_52, li_53, li_54, li_55, li_56, li_57, li_58, li_59, li_60, li_61, li_62, li_63, li_71, li_72, li_73, li_81, li_82, li_97, li_98, li_99, li_100, li_101, li_102, li_105, li_110, li_111, li_116, li_117, li_126, li_161, li_233, li_932, li_1165, li_10000, li_100000, n_lt_t, n_lt_f, n_eq_t, n_eq_f, nI_add, n_sub, n_mul, n_ix, n_ckd, bnd_e, obn_s, zrk_0, zrk_1, zrk_b, zb_0, zb_1, zb_b, if_true, if_false, Bool.toNat_true, Bool.toNat_false, b0, b1, Bool.false_eq_true, Bool.true_eq_false]
        exact e3
  obtain ⟨g', e5⟩ := fill n 0 (by omega) FU (M1 (w + 31)) (by show _ < 4000; omega) (fun s hs => by omega)
  rw [mrow_self] at e5
  refine ⟨mrow M1 (w + 31) g', ?_, fun b hb => by rw [mrow_n (by omega), p4 b hb]⟩
  unfold f_X7_isLiveByLog
  simp (disch := omega) only [li_0, li_1, li_2, li_3, li_4, li_5, li_6, li_7, li_8, li_9, li_10, li_11, li_12, li_13, li_14, li_15, li_16, li_17, li_18, li_19, li_20, li_21, li_22, li_23, li_24, li_25, li_26, li_27, li_28, li_29, li_30, li_31, li_32, li_33, li_34, li_35, li_36, li_37, li_38, li_39, li_40, li_41, li_42, li_43, li_44, li_45, li_46, li_47, li_48, li_49, li_50, li_51, li_52, li_53, li_54, li_55, li_56, li_57, li_58, li_59, li_60, li_61, li_62, li_63, li_71, li_72, li_73, li_81, li_82, li_97, li_98, li_99, li_100, li_101, li_102, li_105, li_110, li_111, li_116, li_117, li_126, li_161, li_233, li_932, li_1165, li_10000, li_100000, n_lt_t, n_lt_f, n_eq_t, n_eq_f, nI_add, n_sub, n_mul, n_ix, n_ckd, bnd_e, obn_s, zrk_0, zrk_1, zrk_b, zb_0, zb_1, zb_b, if_true, if_false, Bool.toNat_true, Bool.toNat_false, b0, b1, Bool.false_eq_true, Bool.true_eq_false, p1]
  exact e5
end CJ

