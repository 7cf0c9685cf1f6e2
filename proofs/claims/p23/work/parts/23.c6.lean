/-! what the class supposes, and its reasons against a step -/
section CR
variable {w : Nat} {M : Mm} {n k q : Nat} {S : Sm}
theorem ex_b {M1 : Mm} {stop p : Nat → Bool} (hn : n ≤ 10) (h : ∀ s, s < 10 → p s = (decide (s < n) && stop s)) : (if fb_ct stop n = 0 then some (nI 0, M1) else some (nI 1, M1)) = (some (nI (decide (fb_ct p 10 ≠ 0)).toNat, M1) : OR) := by
  rw [fb_ct_cong h, ct_10 hn]
  by_cases e : fb_ct stop n = 0
  · rw [if_pos e]; simp [e]
  · rw [if_neg e]; simp [e]
theorem RW.nlow (h : RW M w S n k q) : n ≤ 10 := h.1.1.2.1
theorem RW.klow (h : RW M w S n k q) : k ≤ 16 := h.1.1.2.2.2.1
theorem supIso_ok (h : RW M w S n k q) {i : Nat} (hi : i < k) (b : Bool) : ∃ M', f_X7_supposeIsolator w M (nI i) (nI b.toNat) = some (nI 0, M') ∧ Scr w M' M ∧ nN M' (w + 24) n k (fS S) (uS S) (vS S) (fun j => if j = i then b else cS S j) := by
  obtain ⟨M1, p1, p2, p3⟩ := copyN_ok (a := w + 24) (b := w + 1) (M := M) (by omega)
  have hN := p2.nN h.2.1
  obtain ⟨M2, q1, q2, q3⟩ := setIso_ok hN.1 (nN_live0 hN) (b := b) hi
  refine ⟨M2, ?_, fun x hx => ?_, q2⟩
  · unfold f_X7_supposeIsolator
    simp (disch := omega) only [li_0, li_1, li_2, li_3, li_4, li_5, li_6, li_7, li_8, li_9, li_10, li_11, li_12, li_13, li_14, li_15, li_16, li_17, li_18, li_19, li_20, li_21, li_22, li_23, li_24, li_25, li_26, li_27, li_28, li_29, li_30, li_31, li_32, li_33, li_34, li_35, li_36, li_37, li_38, li_39, li_40, li_41, li_42, li_43, li_44, li_45, li_46, li_47, li_48, li_49, li_50, li_51, li_52, li_53, li_54, li_55, li_56, li_57, li_58, li_59, li_60, li_61, li_62, li_63, li_71, li_72, li_73, li_81, li_82, li_97, li_98, li_99, li_100, li_101, li_102, li_105, li_110, li_111, li_116, li_117, li_126, li_161, li_233, li_932, li_1165, li_10000, li_100000, n_lt_t, n_lt_f, n_eq_t, n_eq_f, nI_add, n_sub, n_mul, n_ix, n_ckd, bnd_e, obn_s, zrk_0, zrk_1, zrk_b, zb_0, zb_1, zb_b, if_true, if_false, Bool.toNat_true, Bool.toNat_false, b0, b1, Bool.false_eq_true, Bool.true_eq_false, p1, q1]
  · rw [q3 x (by omega) (by omega) (by omega), p3 x (by omega)]
theorem supFee_ok (h : RW M w S n k q) {s x : Nat} (hs : s < n) (hx : x ≤ 2) : ∃ M', f_X7_supposeFeeder w M (nI s) (nI x) = some (nI 0, M') ∧ Scr w M' M ∧ nN M' (w + 24) n k (fun t => if t = s then x else fS S t) (uS S) (vS S) (cS S) := by
  obtain ⟨M1, p1, p2, p3⟩ := copyN_ok (a := w + 24) (b := w + 1) (M := M) (by omega)
  have hN := p2.nN h.2.1
  obtain ⟨M2, q1, q2, q3⟩ := setFeeder_ok hN hs hx
  refine ⟨M2, ?_, fun x hx => ?_, q2⟩
  · unfold f_X7_supposeFeeder
    simp (disch := omega) only [li_0, li_1, li_2, li_3, li_4, li_5, li_6, li_7, li_8, li_9, li_10, li_11, li_12, li_13, li_14, li_15, li_16, li_17, li_18, li_19, li_20, li_21, li_22, li_23, li_24, li_25, li_26, li_27, li_28, li_29, li_30, li_31, li_32, li_33, li_34, li_35, li_36, li_37, li_38, li_39, li_40, li_41, li_42, li_43, li_44, li_45, li_46, li_47, li_48, li_49, li_50, li_51, li_52, li_53, li_54, li_55, li_56, li_57, li_58, li_59, li_60, li_61, li_62, li_63, li_71, li_72, li_73, li_81, li_82, li_97, li_98, li_99, li_100, li_101, li_102, li_105, li_110, li_111, li_116, li_117, li_126, li_161, li_233, li_932, li_1165, li_10000, li_100000, n_lt_t, n_lt_f, n_eq_t, n_eq_f, nI_add, n_sub, n_mul, n_ix, n_ckd, bnd_e, obn_s, zrk_0, zrk_1, zrk_b, zb_0, zb_1, zb_b, if_true, if_false, Bool.toNat_true, Bool.toNat_false, b0, b1, Bool.false_eq_true, Bool.true_eq_false, p1, q1]
  · rw [q3 x (by omega) (by omega), p3 x (by omega)]
variable {f u v : Nat → Nat} {c : Nat → Bool}
theorem darken_ok (h : RW M w S n k q) (hA : nN M (w + 24) n k f u v c) {s : Nat} (hs : s < 10) : f_X7_wouldDarken w M (nI s) = some (nI (lvS S n k s && !nlv n k f u v c s).toNat, M) := by
  unfold f_X7_wouldDarken b_X7_wouldDarken_28 b_X7_wouldDarken_29
  simp (disch := omega) only [li_0, li_1, li_2, li_3, li_4, li_5, li_6, li_7, li_8, li_9, li_10, li_11, li_12, li_13, li_14, li_15, li_16, li_17, li_18, li_19, li_20, li_21, li_22, li_23, li_24, li_25, li_26, li_27, li_28, li_29, li_30, li_31, li_32, li_33, li_34, li_35, li_36, li_37, li_38, li_39, li_40, li_41, li_42, li_43, li_44, li_45, li_46, li_47, li_48, li_49, li_50, li_51, li_52, li_53, li_54, li_55, li_56, li_57, li_58, li_59, li_60, li_61, li_62, li_63, li_71, li_72, li_73, li_81, li_82, li_97, li_98, li_99, li_100, li_101, li_102, li_105, li_110, li_111, li_116, li_117, li_126, li_161, li_233, li_932, li_1165, li_10000, li_100000, n_lt_t, n_lt_f, n_eq_t, n_eq_f, nI_add, n_sub, n_mul, n_ix, n_ckd, bnd_e, obn_s, zrk_0, zrk_1, zrk_b, zb_0, zb_1, zb_b, if_true, if_false, Bool.toNat_true, Bool.toNat_false, b0, b1, Bool.false_eq_true, Bool.true_eq_false, h.lv hs, hA.2.2 s hs]
  cases lvS S n k s <;> cases nlv n k f u v c s <;> rfl
theorem light_ok (h : RW M w S n k q) (hA : nN M (w + 24) n k f u v c) {s : Nat} (hs : s < 10) : f_X7_wouldLight w M (nI s) = some (nI (nlv n k f u v c s && !lvS S n k s).toNat, M) := by
  unfold f_X7_wouldLight b_X7_wouldLight_28 b_X7_wouldLight_29
  simp (disch := omega) only [li_0, li_1, li_2, li_3, li_4, li_5, li_6, li_7, li_8, li_9, li_10, li_11, li_12, li_13, li_14, li_15, li_16, li_17, li_18, li_19, li_20, li_21, li_22, li_23, li_24, li_25, li_26, li_27, li_28, li_29, li_30, li_31, li_32, li_33, li_34, li_35, li_36, li_37, li_38, li_39, li_40, li_41, li_42, li_43, li_44, li_45, li_46, li_47, li_48, li_49, li_50, li_51, li_52, li_53, li_54, li_55, li_56, li_57, li_58, li_59, li_60, li_61, li_62, li_63, li_71, li_72, li_73, li_81, li_82, li_97, li_98, li_99, li_100, li_101, li_102, li_105, li_110, li_111, li_116, li_117, li_126, li_161, li_233, li_932, li_1165, li_10000, li_100000, n_lt_t, n_lt_f, n_eq_t, n_eq_f, nI_add, n_sub, n_mul, n_ix, n_ckd, bnd_e, obn_s, zrk_0, zrk_1, zrk_b, zb_0, zb_1, zb_b, if_true, if_false, Bool.toNat_true, Bool.toNat_false, b0, b1, Bool.false_eq_true, Bool.true_eq_false, h.lv hs, hA.2.2 s hs]
  cases lvS S n k s <;> cases nlv n k f u v c s <;> rfl
theorem darkT_ok (h : RW M w S n k q) (hA : nN M (w + 24) n k f u v c) : f_X7_wouldDarkenTrams w M = some (nI (dkB S n k (nlv n k f u v c)).toNat, M) := by
  have hn := h.nlow
  unfold f_X7_wouldDarkenTrams dkB
  rw [← ex_b (stop := fun s => (lvS S n k s && !nlv n k f u v c s) && !bS S 2 s) hn (fun s _ => by cases decide (s < n) <;> simp)]
  refine loop_ex (fun k' (z : Mm × Int32) => l_X7_wouldDarkenTrams_2 w k' z.1 z.2) (fun i => (M, nI i)) n _ _ _ ?_ ?_ ?_ FU 0 (Nat.zero_le _) (by show _ < 4000; omega) (fun j hj => by omega)
  · intro k' i hi g
    show l_X7_wouldDarkenTrams_2 w (k' + 1) M (nI i) = l_X7_wouldDarkenTrams_2 w k' M (nI (i + 1))
    rw [l_X7_wouldDarkenTrams_2]
    simp (disch := omega) only [li_0, li_1, li_2, li_3, li_4, li_5, li_6, li_7, li_8, li_9, li_10, li_11, li_12, li_13, li_14, li_15, li_16, li_17, li_18, li_19, li_20, li_21, li_22, li_23, li_24, li_25, li_26, li_27, li_28, li_29, li_30, li_31, li_32, li_33, li_34, li_35, li_36, li_37, li_38, li_39, li_40, li_41, li_42, li_43, li_44, li_45, li_46, li_47, li_48, li_49, li_50, li_51, li_52, li_53, li_54, li_55, li_56, li_57, li_58, li_59, li_60, li_61, li_62, li_63, li_71, li_72, li_73, li_81, li_82, li_97, li_98, li_99, li_100, li_101, li_102, li_105, li_110, li_111, li_116, li_117, li_126, li_161, li_233, li_932, li_1165, li_10000, li_100000, n_lt_t, n_lt_f, n_eq_t, n_eq_f, nI_add, n_sub, n_mul, n_ix, n_ckd, bnd_e, obn_s, zrk_0, zrk_1, zrk_b, zb_0, zb_1, zb_b, if_true, if_false, Bool.toNat_true, Bool.toNat_false, b0, b1, Bool.false_eq_true, Bool.true_eq_false, h.n0, (h.2.2.1.2.1 i hi).2.1, darken_ok h hA (show i < 10 by omega), b_X7_wouldDarkenTrams_35]
    revert g
    cases bS S 2 i <;> cases (lvS S n k i && !nlv n k f u v c i) <;> simp
  · intro k' i hi g
    show l_X7_wouldDarkenTrams_2 w (k' + 1) M (nI i) = _
    rw [l_X7_wouldDarkenTrams_2]
    simp (disch := omega) only [li_0, li_1, li_2, li_3, li_4, li_5, li_6, li_7, li_8, li_9, li_10, li_11, li_12, li_13, li_14, li_15, li_16, li_17, li_18, li_19, li_20, li_21, li_22, li_23, li_24, li_25, li_26, li_27, li_28, li_29, li_30, li_31, li_32, li_33, li_34, li_35, li_36, li_37, li_38, li_39, li_40, li_41, li_42, li_43, li_44, li_45, li_46, li_47, li_48, li_49, li_50, li_51, li_52, li_53, li_54, li_55, li_56, li_57, li_58, li_59, li_60, li_61, li_62, li_63, li_71, li_72, li_73, li_81, li_82, li_97, li_98, li_99, li_100, li_101, li_102, li_105, li_110, li_111, li_116, li_117, li_126, li_161, li_233, li_932, li_1165, li_10000, li_100000, n_lt_t, n_lt_f, n_eq_t, n_eq_f, nI_add, n_sub, n_mul, n_ix, n_ckd, bnd_e, obn_s, zrk_0, zrk_1, zrk_b, zb_0, zb_1, zb_b, if_true, if_false, Bool.toNat_true, Bool.toNat_false, b0, b1, Bool.false_eq_true, Bool.true_eq_false, h.n0, (h.2.2.1.2.1 i hi).2.1, darken_ok h hA (show i < 10 by omega), b_X7_wouldDarkenTrams_35]
    revert g
    cases bS S 2 i <;> cases (lvS S n k i && !nlv n k f u v c i) <;> simp
  · intro k'
    show l_X7_wouldDarkenTrams_2 w (k' + 1) M (nI n) = _
    rw [l_X7_wouldDarkenTrams_2]
    simp (disch := omega) only [li_0, li_1, li_2, li_3, li_4, li_5, li_6, li_7, li_8, li_9, li_10, li_11, li_12, li_13, li_14, li_15, li_16, li_17, li_18, li_19, li_20, li_21, li_22, li_23, li_24, li_25, li_26, li_27, li_28, li_29, li_30, li_31, li_32, li_33, li_34, li_35, li_36, li_37, li_38, li_39, li_40, li_41, li_42, li_43, li_44, li_45, li_46, li_47, li_48, li_49, li_50, li_51, li_52, li_53, li_54, li_55, li_56, li_57, li_58, li_59, li_60, li_61, li_62, li_63, li_71, li_72, li_73, li_81, li_82, li_97, li_98, li_99, li_100, li_101, li_102, li_105, li_110, li_111, li_116, li_117, li_126, li_161, li_233, li_932, li_1165, li_10000, li_100000, n_lt_t, n_lt_f, n_eq_t, n_eq_f, nI_add, n_sub, n_mul, n_ix, n_ckd, bnd_e, obn_s, zrk_0, zrk_1, zrk_b, zb_0, zb_1, zb_b, if_true, if_false, Bool.toNat_true, Bool.toNat_false, b0, b1, Bool.false_eq_true, Bool.true_eq_false, h.n0]
theorem pos_b (W : Wf S n k q) {j s : Nat} (hj : j = 2 ∨ j = 3 ∨ j = 4 ∨ j = 8) (hs : s < n) : decide (nI 0 < aO S s j) = bS S j s := by
  obtain ⟨-, h2, h3, h4, h8⟩ := W.2.2.1 s hs
  have e : aO S s j = nI (bS S j s).toNat := by
    rcases hj with rfl | rfl | rfl | rfl
    · exact h2
    · exact h3
    · exact h4
    · exact h8
  rw [e]
  cases bS S j s <;> decide
theorem lightE_ok (h : RW M w S n k q) (hA : nN M (w + 24) n k f u v c) : f_X7_wouldLightEarth w M = some (nI (anB S n (nlv n k f u v c) (lvS S n k) 3).toNat, M) := by
  have hn := h.nlow
  unfold f_X7_wouldLightEarth anB
  rw [← ex_b (stop := fun s => (nlv n k f u v c s && !lvS S n k s) && bS S 3 s) hn (fun s _ => by
    by_cases e : s < n
    · rw [pos_b h.1 (by omega) e]; simp [e]
    · simp [e])]
  refine loop_ex (fun k' (z : Mm × Int32) => l_X7_wouldLightEarth_2 w k' z.1 z.2) (fun i => (M, nI i)) n _ _ _ ?_ ?_ ?_ FU 0 (Nat.zero_le _) (by show _ < 4000; omega) (fun j hj => by omega)
  · intro k' i hi g
    show l_X7_wouldLightEarth_2 w (k' + 1) M (nI i) = l_X7_wouldLightEarth_2 w k' M (nI (i + 1))
    rw [l_X7_wouldLightEarth_2]
    simp (disch := omega) only [li_0, li_1, li_2, li_3, li_4, li_5, li_6, li_7, li_8, li_9, li_10, li_11, li_12, li_13, li_14, li_15, li_16, li_17, li_18, li_19, li_20, li_21, li_22, li_23, li_24, li_25, li_26, li_27, li_28, li_29, li_30, li_31, li_32, li_33, li_34, li_35, li_36, li_37, li_38, li_39, li_40, li_41, li_42, li_43, li_44, li_45, li_46, li_47, li_48, li_49, li_50, li_51, li_52, li_53, li_54, li_55, li_56, li_57, li_58, li_59, li_60, li_61, li_62, li_63, li_71, li_72, li_73, li_81, li_82, li_97, li_98, li_99, li_100, li_101, li_102, li_105, li_110, li_111, li_116, li_117, li_126, li_161, li_233, li_932, li_1165, li_10000, li_100000, n_lt_t, n_lt_f, n_eq_t, n_eq_f, nI_add, n_sub, n_mul, n_ix, n_ckd, bnd_e, obn_s, zrk_0, zrk_1, zrk_b, zb_0, zb_1, zb_b, if_true, if_false, Bool.toNat_true, Bool.toNat_false, b0, b1, Bool.false_eq_true, Bool.true_eq_false, h.n0, (h.2.2.1.2.1 i hi).2.2.1, light_ok h hA (show i < 10 by omega), b_X7_wouldLightEarth_35]
    revert g
    cases bS S 3 i <;> cases (nlv n k f u v c i && !lvS S n k i) <;> simp
  · intro k' i hi g
    show l_X7_wouldLightEarth_2 w (k' + 1) M (nI i) = _
    rw [l_X7_wouldLightEarth_2]
    simp (disch := omega) only [li_0, li_1, li_2, li_3, li_4, li_5, li_6, li_7, li_8, li_9, li_10, li_11, li_12, li_13, li_14, li_15, li_16, li_17, li_18, li_19, li_20, li_21, li_22, li_23, li_24, li_25, li_26, li_27, li_28, li_29, li_30, li_31, li_32, li_33, li_34, li_35, li_36, li_37, li_38, li_39, li_40, li_41, li_42, li_43, li_44, li_45, li_46, li_47, li_48, li_49, li_50, li_51, li_52, li_53, li_54, li_55, li_56, li_57, li_58, li_59, li_60, li_61, li_62, li_63, li_71, li_72, li_73, li_81, li_82, li_97, li_98, li_99, li_100, li_101, li_102, li_105, li_110, li_111, li_116, li_117, li_126, li_161, li_233, li_932, li_1165, li_10000, li_100000, n_lt_t, n_lt_f, n_eq_t, n_eq_f, nI_add, n_sub, n_mul, n_ix, n_ckd, bnd_e, obn_s, zrk_0, zrk_1, zrk_b, zb_0, zb_1, zb_b, if_true, if_false, Bool.toNat_true, Bool.toNat_false, b0, b1, Bool.false_eq_true, Bool.true_eq_false, h.n0, (h.2.2.1.2.1 i hi).2.2.1, light_ok h hA (show i < 10 by omega), b_X7_wouldLightEarth_35]
    revert g
    cases bS S 3 i <;> cases (nlv n k f u v c i && !lvS S n k i) <;> simp
  · intro k'
    show l_X7_wouldLightEarth_2 w (k' + 1) M (nI n) = _
    rw [l_X7_wouldLightEarth_2]
    simp (disch := omega) only [li_0, li_1, li_2, li_3, li_4, li_5, li_6, li_7, li_8, li_9, li_10, li_11, li_12, li_13, li_14, li_15, li_16, li_17, li_18, li_19, li_20, li_21, li_22, li_23, li_24, li_25, li_26, li_27, li_28, li_29, li_30, li_31, li_32, li_33, li_34, li_35, li_36, li_37, li_38, li_39, li_40, li_41, li_42, li_43, li_44, li_45, li_46, li_47, li_48, li_49, li_50, li_51, li_52, li_53, li_54, li_55, li_56, li_57, li_58, li_59, li_60, li_61, li_62, li_63, li_71, li_72, li_73, li_81, li_82, li_97, li_98, li_99, li_100, li_101, li_102, li_105, li_110, li_111, li_116, li_117, li_126, li_161, li_233, li_932, li_1165, li_10000, li_100000, n_lt_t, n_lt_f, n_eq_t, n_eq_f, nI_add, n_sub, n_mul, n_ix, n_ckd, bnd_e, obn_s, zrk_0, zrk_1, zrk_b, zb_0, zb_1, zb_b, if_true, if_false, Bool.toNat_true, Bool.toNat_false, b0, b1, Bool.false_eq_true, Bool.true_eq_false, h.n0]
theorem lightT_ok (h : RW M w S n k q) (hA : nN M (w + 24) n k f u v c) : f_X7_wouldLightTools w M = some (nI (anB S n (nlv n k f u v c) (lvS S n k) 7).toNat, M) := by
  have hn := h.nlow
  unfold f_X7_wouldLightTools anB
  rw [← ex_b (stop := fun s => (nlv n k f u v c s && !lvS S n k s) && decide (nI 0 < aO S s 7)) hn (fun s _ => by
    by_cases e : s < n
    · simp [e]
    · simp [e])]
  refine loop_ex (fun k' (z : Mm × Int32) => l_X7_wouldLightTools_2 w k' z.1 z.2) (fun i => (M, nI i)) n _ _ _ ?_ ?_ ?_ FU 0 (Nat.zero_le _) (by show _ < 4000; omega) (fun j hj => by omega)
  · intro k' i hi g
    show l_X7_wouldLightTools_2 w (k' + 1) M (nI i) = l_X7_wouldLightTools_2 w k' M (nI (i + 1))
    rw [l_X7_wouldLightTools_2]
    simp (disch := omega) only [li_0, li_1, li_2, li_3, li_4, li_5, li_6, li_7, li_8, li_9, li_10, li_11, li_12, li_13, li_14, li_15, li_16, li_17, li_18, li_19, li_20, li_21, li_22, li_23, li_24, li_25, li_26, li_27, li_28, li_29, li_30, li_31, li_32, li_33, li_34, li_35, li_36, li_37, li_38, li_39, li_40, li_41, li_42, li_43, li_44, li_45, li_46, li_47, li_48, li_49, li_50, li_51, li_52, li_53, li_54, li_55, li_56, li_57, li_58, li_59, li_60, li_61, li_62, li_63, li_71, li_72, li_73, li_81, li_82, li_97, li_98, li_99, li_100, li_101, li_102, li_105, li_110, li_111, li_116, li_117, li_126, li_161, li_233, li_932, li_1165, li_10000, li_100000, n_lt_t, n_lt_f, n_eq_t, n_eq_f, nI_add, n_sub, n_mul, n_ix, n_ckd, bnd_e, obn_s, zrk_0, zrk_1, zrk_b, zb_0, zb_1, zb_b, if_true, if_false, Bool.toNat_true, Bool.toNat_false, b0, b1, Bool.false_eq_true, Bool.true_eq_false, h.n0, (h.2.2.1.2.1 i hi).2.2.2.2.2, light_ok h hA (show i < 10 by omega), b_X7_wouldLightTools_35]
    revert g
    by_cases z : nI 0 < aO S i 7 <;> cases (nlv n k f u v c i && !lvS S n k i) <;> simp [z]
  · intro k' i hi g
    show l_X7_wouldLightTools_2 w (k' + 1) M (nI i) = _
    rw [l_X7_wouldLightTools_2]
    simp (disch := omega) only [li_0, li_1, li_2, li_3, li_4, li_5, li_6, li_7, li_8, li_9, li_10, li_11, li_12, li_13, li_14, li_15, li_16, li_17, li_18, li_19, li_20, li_21, li_22, li_23, li_24, li_25, li_26, li_27, li_28, li_29, li_30, li_31, li_32, li_33, li_34, li_35, li_36, li_37, li_38, li_39, li_40, li_41, li_42, li_43, li_44, li_45, li_46, li_47, li_48, li_49, li_50, li_51, li_52, li_53, li_54, li_55, li_56, li_57, li_58, li_59, li_60, li_61, li_62, li_63, li_71, li_72, li_73, li_81, li_82, li_97, li_98, li_99, li_100, li_101, li_102, li_105, li_110, li_111, li_116, li_117, li_126, li_161, li_233, li_932, li_1165, li_10000, li_100000, n_lt_t, n_lt_f, n_eq_t, n_eq_f, nI_add, n_sub, n_mul, n_ix, n_ckd, bnd_e, obn_s, zrk_0, zrk_1, zrk_b, zb_0, zb_1, zb_b, if_true, if_false, Bool.toNat_true, Bool.toNat_false, b0, b1, Bool.false_eq_true, Bool.true_eq_false, h.n0, (h.2.2.1.2.1 i hi).2.2.2.2.2, light_ok h hA (show i < 10 by omega), b_X7_wouldLightTools_35]
    revert g
    by_cases z : nI 0 < aO S i 7 <;> cases (nlv n k f u v c i && !lvS S n k i) <;> simp [z]
  · intro k'
    show l_X7_wouldLightTools_2 w (k' + 1) M (nI n) = _
    rw [l_X7_wouldLightTools_2]
    simp (disch := omega) only [li_0, li_1, li_2, li_3, li_4, li_5, li_6, li_7, li_8, li_9, li_10, li_11, li_12, li_13, li_14, li_15, li_16, li_17, li_18, li_19, li_20, li_21, li_22, li_23, li_24, li_25, li_26, li_27, li_28, li_29, li_30, li_31, li_32, li_33, li_34, li_35, li_36, li_37, li_38, li_39, li_40, li_41, li_42, li_43, li_44, li_45, li_46, li_47, li_48, li_49, li_50, li_51, li_52, li_53, li_54, li_55, li_56, li_57, li_58, li_59, li_60, li_61, li_62, li_63, li_71, li_72, li_73, li_81, li_82, li_97, li_98, li_99, li_100, li_101, li_102, li_105, li_110, li_111, li_116, li_117, li_126, li_161, li_233, li_932, li_1165, li_10000, li_100000, n_lt_t, n_lt_f, n_eq_t, n_eq_f, nI_add, n_sub, n_mul, n_ix, n_ckd, bnd_e, obn_s, zrk_0, zrk_1, zrk_b, zb_0, zb_1, zb_b, if_true, if_false, Bool.toNat_true, Bool.toNat_false, b0, b1, Bool.false_eq_true, Bool.true_eq_false, h.n0]
/-! what is supposed, in the reference's words -/
theorem cOp_e (S : Sm) (i : Nat) : (fun j => if j = i then false else cS S j) = cOp S i := by
  funext j
  unfold cOp
  by_cases e : j = i <;> simp [e]
theorem cCl_e (S : Sm) (i : Nat) : (fun j => if j = i then true else cS S j) = cCl S i := by
  funext j
  unfold cCl
  by_cases e : j = i <;> simp [e]
theorem fOff_e (S : Sm) (n s : Nat) : fd2 n (fun t => if t = s then 1 else fS S t) = fun t => onx S n t && !(t == s) := by
  funext t
  unfold fd2 onx onS
  by_cases e : t = s <;> simp [e]
theorem fOn_e (S : Sm) {n s : Nat} (hs : s < n) : fd2 n (fun t => if t = s then 2 else fS S t) = fun t => onx S n t || t == s := by
  funext t
  unfold fd2 onx onS
  by_cases e : t = s
  · subst e; simp [hs]
  · simp [e]
theorem nlv_e (S : Sm) (n k : Nat) (f : Nat → Nat) (c : Nat → Bool) : nlv n k f (uS S) (vS S) c = lwS S n k c (fd2 n f) := rfl
theorem lights_e {A : Nat → Bool} {r : Nat} (hr : r < 100) : (if (nI (anB S n A (lvS S n k) 3).toNat = nI 0) then (if (nI (anB S n A (lvS S n k) 7).toNat = nI 0) then nI 0 else nI (r + 1)) else nI r) = nI (liS S n k A r) := by
  unfold liS agS
  simp only [b0]
  cases anB S n A (lvS S n k) 3
  · cases anB S n A (lvS S n k) 7 <;> simp
  · simp
theorem RW.se (h : RW M w S n k q) {s : Nat} (hs : s < n) : M (w + 8 + 1) s = aO S s 0 ∧ zb (M (w + 8 + 2) s) = nI (bS S 2 s).toNat ∧ zb (M (w + 8 + 3) s) = nI (bS S 3 s).toNat ∧ zb (M (w + 8 + 4) s) = nI (bS S 4 s).toNat ∧ (bS S 4 s = true → M (w + 8 + 5) s = aO S s 5 ∧ M (w + 8 + 6) s = aO S s 6) ∧ M (w + 8 + 7) s = aO S s 7 := h.2.2.1.2.1 s hs
theorem ag_0 (h : RW M w S n k q) {p : Nat} (hp : p < n) : ∃ M', f_X7_againstBridging w M (nI p) = some (nI (rfS S n k 0 p), M') ∧ Scr w M' M := by
  have hn := h.nlow
  obtain ⟨h1, h2, h3, h4, h5, h6⟩ := h.se hp
  refine ⟨M, ?_, Scr.refl⟩
  unfold f_X7_againstBridging b_X7_againstBridging_40
  rw [rf_0]
  simp (disch := omega) only [li_0, li_1, li_2, li_3, li_4, li_5, li_6, li_7, li_8, li_9, li_10, li_11, li_12, li_13, li_14, li_15, li_16, li_17, li_18, li_19, li_20, li_21, li_22, li_23, li_24, li_25, li_26, li_27, li_28, li_29, li_30, li_31, li_32, li_33, li_34, li_35, li_36, li_37, li_38, li_39, li_40, li_41, li_42, li_43, li_44, li_45, li_46, li_47, li_48, li_49, li_50, li_51, li_52, li_53, li_54, li_55, li_56, li_57, li_58, li_59, li_60, li_61, li_62, li_63, li_71, li_72, li_73, li_81, li_82, li_97, li_98, li_99, li_100, li_101, li_102, li_105, li_110, li_111, li_116, li_117, li_126, li_161, li_233, li_932, li_1165, li_10000, li_100000, n_lt_t, n_lt_f, n_eq_t, n_eq_f, nI_add, n_sub, n_mul, n_ix, n_ckd, bnd_e, obn_s, zrk_0, zrk_1, zrk_b, zb_0, zb_1, zb_b, if_true, if_false, Bool.toNat_true, Bool.toNat_false, b0, b1, Bool.false_eq_true, Bool.true_eq_false, h2, freeBuses_ok hn h.2.2.1, h1]
  cases bS S 2 p
  · by_cases e : frS S n < aO S p 0 <;> simp [e]
  · simp
theorem ag_1 (h : RW M w S n k q) {p : Nat} (hp : p < n) : ∃ M', f_X7_againstTrams w M (nI p) = some (nI (rfS S n k 1 p), M') ∧ Scr w M' M := by
  have hn := h.nlow
  obtain ⟨h1, h2, h3, h4, h5, h6⟩ := h.se hp
  refine ⟨M, ?_, Scr.refl⟩
  unfold f_X7_againstTrams b_X7_againstTrams_48
  rw [rf_1]
  simp (disch := omega) only [li_0, li_1, li_2, li_3, li_4, li_5, li_6, li_7, li_8, li_9, li_10, li_11, li_12, li_13, li_14, li_15, li_16, li_17, li_18, li_19, li_20, li_21, li_22, li_23, li_24, li_25, li_26, li_27, li_28, li_29, li_30, li_31, li_32, li_33, li_34, li_35, li_36, li_37, li_38, li_39, li_40, li_41, li_42, li_43, li_44, li_45, li_46, li_47, li_48, li_49, li_50, li_51, li_52, li_53, li_54, li_55, li_56, li_57, li_58, li_59, li_60, li_61, li_62, li_63, li_71, li_72, li_73, li_81, li_82, li_97, li_98, li_99, li_100, li_101, li_102, li_105, li_110, li_111, li_116, li_117, li_126, li_161, li_233, li_932, li_1165, li_10000, li_100000, n_lt_t, n_lt_f, n_eq_t, n_eq_f, nI_add, n_sub, n_mul, n_ix, n_ckd, bnd_e, obn_s, zrk_0, zrk_1, zrk_b, zb_0, zb_1, zb_b, if_true, if_false, Bool.toNat_true, Bool.toNat_false, b0, b1, Bool.false_eq_true, Bool.true_eq_false, h2, h.lv (show p < 10 by omega), h6]
  cases bS S 2 p
  · simp
  · cases lvS S n k p
    · simp
    · by_cases e : nI 0 < aO S p 7 <;> simp [e]
theorem ag_2 (h : RW M w S n k q) {p : Nat} (hp : p < k) : ∃ M', f_X7_againstOpening w M (nI p) = some (nI (rfS S n k 2 p), M') ∧ Scr w M' M := by
  have hk := h.klow
  have hc := (h.2.1.1.2.2 p hp).2.2
  rw [rf_2]
  unfold f_X7_againstOpening b_X7_againstOpening_34
  cases e : cS S p
  · refine ⟨M, ?_, Scr.refl⟩
    simp (disch := omega) only [li_0, li_1, li_2, li_3, li_4, li_5, li_6, li_7, li_8, li_9, li_10, li_11, li_12, li_13, li_14, li_15, li_16, li_17, li_18, li_19, li_20, li_21, li_22, li_23, li_24, li_25, li_26, li_27, li_28, li_29, li_30, li_31, li_32, li_33, li_34, li_35, li_36, li_37, li_38, li_39, li_40, li_41, li_42, li_43, li_44, li_45, li_46, li_47, li_48, li_49, li_50, li_51, li_52, li_53, li_54, li_55, li_56, li_57, li_58, li_59, li_60, li_61, li_62, li_63, li_71, li_72, li_73, li_81, li_82, li_97, li_98, li_99, li_100, li_101, li_102, li_105, li_110, li_111, li_116, li_117, li_126, li_161, li_233, li_932, li_1165, li_10000, li_100000, n_lt_t, n_lt_f, n_eq_t, n_eq_f, nI_add, n_sub, n_mul, n_ix, n_ckd, bnd_e, obn_s, zrk_0, zrk_1, zrk_b, zb_0, zb_1, zb_b, if_true, if_false, Bool.toNat_true, Bool.toNat_false, b0, b1, Bool.false_eq_true, Bool.true_eq_false, hc, e]
  · obtain ⟨M', p1, p2, p3⟩ := supIso_ok h hp false
    rw [cOp_e] at p3
    have hd := darkT_ok (h.scr p2) p3
    rw [nlv_e] at hd
    refine ⟨M', ?_, p2⟩
    simp (disch := omega) only [li_0, li_1, li_2, li_3, li_4, li_5, li_6, li_7, li_8, li_9, li_10, li_11, li_12, li_13, li_14, li_15, li_16, li_17, li_18, li_19, li_20, li_21, li_22, li_23, li_24, li_25, li_26, li_27, li_28, li_29, li_30, li_31, li_32, li_33, li_34, li_35, li_36, li_37, li_38, li_39, li_40, li_41, li_42, li_43, li_44, li_45, li_46, li_47, li_48, li_49, li_50, li_51, li_52, li_53, li_54, li_55, li_56, li_57, li_58, li_59, li_60, li_61, li_62, li_63, li_71, li_72, li_73, li_81, li_82, li_97, li_98, li_99, li_100, li_101, li_102, li_105, li_110, li_111, li_116, li_117, li_126, li_161, li_233, li_932, li_1165, li_10000, li_100000, n_lt_t, n_lt_f, n_eq_t, n_eq_f, nI_add, n_sub, n_mul, n_ix, n_ckd, bnd_e, obn_s, zrk_0, zrk_1, zrk_b, zb_0, zb_1, zb_b, if_true, if_false, Bool.toNat_true, Bool.toNat_false, b0, b1, Bool.false_eq_true, Bool.true_eq_false] at p1
    simp (disch := omega) only [li_0, li_1, li_2, li_3, li_4, li_5, li_6, li_7, li_8, li_9, li_10, li_11, li_12, li_13, li_14, li_15, li_16, li_17, li_18, li_19, li_20, li_21, li_22, li_23, li_24, li_25, li_26, li_27, li_28, li_29, li_30, li_31, li_32, li_33, li_34, li_35, li_36, li_37, li_38, li_39, li_40, li_41, li_42, li_43, li_44, li_45, li_46, li_47, li_48, li_49, li_50, li_51, li_52, li_53, li_54, li_55, li_56, li_57, li_58, li_59, li_60, li_61, li_62, li_63, li_71, li_72, li_73, li_81, li_82, li_97, li_98, li_99, li_100, li_101, li_102, li_105, li_110, li_111, li_116, li_117, li_126, li_161, li_233, li_932, li_1165, li_10000, li_100000, n_lt_t, n_lt_f, n_eq_t, n_eq_f, nI_add, n_sub, n_mul, n_ix, n_ckd, bnd_e, obn_s, zrk_0, zrk_1, zrk_b, zb_0, zb_1, zb_b, if_true, if_false, Bool.toNat_true, Bool.toNat_false, b0, b1, Bool.false_eq_true, Bool.true_eq_false, hc, e, p1, hd]
    show (if dkB S n k (lwS S n k (cOp S p) (onx S n)) = false then _ else _) = _
    show (if dkB S n k (lwS S n k (cOp S p) (onx S n)) = false then _ else _) = some (nI (if dkB S n k (lwS S n k (cOp S p) (onx S n)) = true then 32 else 0), M')
    cases dkB S n k (lwS S n k (cOp S p) (onx S n)) <;> simp
theorem ag_3 (h : RW M w S n k q) {p : Nat} (hp : p < k) : ∃ M', f_X7_againstClosing w M (nI p) = some (nI (rfS S n k 3 p), M') ∧ Scr w M' M := by
  have hk := h.klow
  have hc := (h.2.1.1.2.2 p hp).2.2
  rw [rf_3]
  unfold f_X7_againstClosing b_X7_againstClosing_44
  cases e : cS S p
  · obtain ⟨M', p1, p2, p3⟩ := supIso_ok h hp true
    rw [cCl_e] at p3
    have hd := lightE_ok (h.scr p2) p3
    have ht := lightT_ok (h.scr p2) p3
    rw [nlv_e] at hd ht
    refine ⟨M', ?_, p2⟩
    simp (disch := omega) only [li_0, li_1, li_2, li_3, li_4, li_5, li_6, li_7, li_8, li_9, li_10, li_11, li_12, li_13, li_14, li_15, li_16, li_17, li_18, li_19, li_20, li_21, li_22, li_23, li_24, li_25, li_26, li_27, li_28, li_29, li_30, li_31, li_32, li_33, li_34, li_35, li_36, li_37, li_38, li_39, li_40, li_41, li_42, li_43, li_44, li_45, li_46, li_47, li_48, li_49, li_50, li_51, li_52, li_53, li_54, li_55, li_56, li_57, li_58, li_59, li_60, li_61, li_62, li_63, li_71, li_72, li_73, li_81, li_82, li_97, li_98, li_99, li_100, li_101, li_102, li_105, li_110, li_111, li_116, li_117, li_126, li_161, li_233, li_932, li_1165, li_10000, li_100000, n_lt_t, n_lt_f, n_eq_t, n_eq_f, nI_add, n_sub, n_mul, n_ix, n_ckd, bnd_e, obn_s, zrk_0, zrk_1, zrk_b, zb_0, zb_1, zb_b, if_true, if_false, Bool.toNat_true, Bool.toNat_false, b0, b1, Bool.false_eq_true, Bool.true_eq_false] at p1
    simp (disch := omega) only [li_0, li_1, li_2, li_3, li_4, li_5, li_6, li_7, li_8, li_9, li_10, li_11, li_12, li_13, li_14, li_15, li_16, li_17, li_18, li_19, li_20, li_21, li_22, li_23, li_24, li_25, li_26, li_27, li_28, li_29, li_30, li_31, li_32, li_33, li_34, li_35, li_36, li_37, li_38, li_39, li_40, li_41, li_42, li_43, li_44, li_45, li_46, li_47, li_48, li_49, li_50, li_51, li_52, li_53, li_54, li_55, li_56, li_57, li_58, li_59, li_60, li_61, li_62, li_63, li_71, li_72, li_73, li_81, li_82, li_97, li_98, li_99, li_100, li_101, li_102, li_105, li_110, li_111, li_116, li_117, li_126, li_161, li_233, li_932, li_1165, li_10000, li_100000, n_lt_t, n_lt_f, n_eq_t, n_eq_f, nI_add, n_sub, n_mul, n_ix, n_ckd, bnd_e, obn_s, zrk_0, zrk_1, zrk_b, zb_0, zb_1, zb_b, if_true, if_false, Bool.toNat_true, Bool.toNat_false, b0, b1, Bool.false_eq_true, Bool.true_eq_false, hc, e, p1, hd, ht]
    have := lights_e (S := S) (n := n) (k := k) (A := lwS S n k (cCl S p) (onx S n)) (r := 42) (by omega)
    simp only [b0] at this
    rw [← this]
    show (if anB S n (lwS S n k (cCl S p) (onx S n)) (lvS S n k) 3 = false then _ else _) = _
    cases anB S n (lwS S n k (cCl S p) (onx S n)) (lvS S n k) 3
    · show (if anB S n (lwS S n k (cCl S p) (onx S n)) (lvS S n k) 7 = false then _ else _) = _
      cases anB S n (lwS S n k (cCl S p) (onx S n)) (lvS S n k) 7 <;> simp
    · simp
  · refine ⟨M, ?_, Scr.refl⟩
    simp (disch := omega) only [li_0, li_1, li_2, li_3, li_4, li_5, li_6, li_7, li_8, li_9, li_10, li_11, li_12, li_13, li_14, li_15, li_16, li_17, li_18, li_19, li_20, li_21, li_22, li_23, li_24, li_25, li_26, li_27, li_28, li_29, li_30, li_31, li_32, li_33, li_34, li_35, li_36, li_37, li_38, li_39, li_40, li_41, li_42, li_43, li_44, li_45, li_46, li_47, li_48, li_49, li_50, li_51, li_52, li_53, li_54, li_55, li_56, li_57, li_58, li_59, li_60, li_61, li_62, li_63, li_71, li_72, li_73, li_81, li_82, li_97, li_98, li_99, li_100, li_101, li_102, li_105, li_110, li_111, li_116, li_117, li_126, li_161, li_233, li_932, li_1165, li_10000, li_100000, n_lt_t, n_lt_f, n_eq_t, n_eq_f, nI_add, n_sub, n_mul, n_ix, n_ckd, bnd_e, obn_s, zrk_0, zrk_1, zrk_b, zb_0, zb_1, zb_b, if_true, if_false, Bool.toNat_true, Bool.toNat_false, b0, b1, Bool.false_eq_true, Bool.true_eq_false, hc, e]
theorem ag_4 (h : RW M w S n k q) {p : Nat} (hp : p < n) : ∃ M', f_X7_againstTurningOff w M (nI p) = some (nI (rfS S n k 4 p), M') ∧ Scr w M' M := by
  have hn := h.nlow
  obtain ⟨hc, hf⟩ := h.2.1.1.2.1 p hp
  rw [rf_4]
  unfold f_X7_againstTurningOff b_X7_againstTurningOff_35
  by_cases e : fS S p = 2
  · obtain ⟨M', p1, p2, p3⟩ := supFee_ok h hp (show 1 ≤ 2 by omega)
    have hd := darkT_ok (h.scr p2) p3
    rw [nlv_e, fOff_e] at hd
    refine ⟨M', ?_, p2⟩
    simp (disch := omega) only [li_0, li_1, li_2, li_3, li_4, li_5, li_6, li_7, li_8, li_9, li_10, li_11, li_12, li_13, li_14, li_15, li_16, li_17, li_18, li_19, li_20, li_21, li_22, li_23, li_24, li_25, li_26, li_27, li_28, li_29, li_30, li_31, li_32, li_33, li_34, li_35, li_36, li_37, li_38, li_39, li_40, li_41, li_42, li_43, li_44, li_45, li_46, li_47, li_48, li_49, li_50, li_51, li_52, li_53, li_54, li_55, li_56, li_57, li_58, li_59, li_60, li_61, li_62, li_63, li_71, li_72, li_73, li_81, li_82, li_97, li_98, li_99, li_100, li_101, li_102, li_105, li_110, li_111, li_116, li_117, li_126, li_161, li_233, li_932, li_1165, li_10000, li_100000, n_lt_t, n_lt_f, n_eq_t, n_eq_f, nI_add, n_sub, n_mul, n_ix, n_ckd, bnd_e, obn_s, zrk_0, zrk_1, zrk_b, zb_0, zb_1, zb_b, if_true, if_false, Bool.toNat_true, Bool.toNat_false, b0, b1, Bool.false_eq_true, Bool.true_eq_false, hc, e, p1, hd]
    cases dkB S n k (lwS S n k (cS S) fun t => onx S n t && !(t == p)) <;> simp
  · refine ⟨M, ?_, Scr.refl⟩
    simp (disch := omega) only [li_0, li_1, li_2, li_3, li_4, li_5, li_6, li_7, li_8, li_9, li_10, li_11, li_12, li_13, li_14, li_15, li_16, li_17, li_18, li_19, li_20, li_21, li_22, li_23, li_24, li_25, li_26, li_27, li_28, li_29, li_30, li_31, li_32, li_33, li_34, li_35, li_36, li_37, li_38, li_39, li_40, li_41, li_42, li_43, li_44, li_45, li_46, li_47, li_48, li_49, li_50, li_51, li_52, li_53, li_54, li_55, li_56, li_57, li_58, li_59, li_60, li_61, li_62, li_63, li_71, li_72, li_73, li_81, li_82, li_97, li_98, li_99, li_100, li_101, li_102, li_105, li_110, li_111, li_116, li_117, li_126, li_161, li_233, li_932, li_1165, li_10000, li_100000, n_lt_t, n_lt_f, n_eq_t, n_eq_f, nI_add, n_sub, n_mul, n_ix, n_ckd, bnd_e, obn_s, zrk_0, zrk_1, zrk_b, zb_0, zb_1, zb_b, if_true, if_false, Bool.toNat_true, Bool.toNat_false, b0, b1, Bool.false_eq_true, Bool.true_eq_false, hc]
    rw [if_neg e]
theorem ag_5 (h : RW M w S n k q) {p : Nat} (hp : p < n) : ∃ M', f_X7_againstTurningOn w M (nI p) = some (nI (rfS S n k 5 p), M') ∧ Scr w M' M := by
  have hn := h.nlow
  obtain ⟨hc, hf⟩ := h.2.1.1.2.1 p hp
  rw [rf_5]
  unfold f_X7_againstTurningOn b_X7_againstTurningOn_45
  by_cases e : fS S p = 1
  · obtain ⟨M', p1, p2, p3⟩ := supFee_ok h hp (show 2 ≤ 2 by omega)
    have hd := lightE_ok (h.scr p2) p3
    have ht := lightT_ok (h.scr p2) p3
    rw [nlv_e, fOn_e S hp] at hd ht
    refine ⟨M', ?_, p2⟩
    simp (disch := omega) only [li_0, li_1, li_2, li_3, li_4, li_5, li_6, li_7, li_8, li_9, li_10, li_11, li_12, li_13, li_14, li_15, li_16, li_17, li_18, li_19, li_20, li_21, li_22, li_23, li_24, li_25, li_26, li_27, li_28, li_29, li_30, li_31, li_32, li_33, li_34, li_35, li_36, li_37, li_38, li_39, li_40, li_41, li_42, li_43, li_44, li_45, li_46, li_47, li_48, li_49, li_50, li_51, li_52, li_53, li_54, li_55, li_56, li_57, li_58, li_59, li_60, li_61, li_62, li_63, li_71, li_72, li_73, li_81, li_82, li_97, li_98, li_99, li_100, li_101, li_102, li_105, li_110, li_111, li_116, li_117, li_126, li_161, li_233, li_932, li_1165, li_10000, li_100000, n_lt_t, n_lt_f, n_eq_t, n_eq_f, nI_add, n_sub, n_mul, n_ix, n_ckd, bnd_e, obn_s, zrk_0, zrk_1, zrk_b, zb_0, zb_1, zb_b, if_true, if_false, Bool.toNat_true, Bool.toNat_false, b0, b1, Bool.false_eq_true, Bool.true_eq_false, hc, e, p1, hd, ht]
    have := lights_e (S := S) (n := n) (k := k) (A := lwS S n k (cS S) fun t => onx S n t || t == p) (r := 62) (by omega)
    simp only [b0] at this
    rw [← this]
    cases anB S n (lwS S n k (cS S) fun t => onx S n t || t == p) (lvS S n k) 3
    · cases anB S n (lwS S n k (cS S) fun t => onx S n t || t == p) (lvS S n k) 7 <;> simp
    · simp
  · refine ⟨M, ?_, Scr.refl⟩
    simp (disch := omega) only [li_0, li_1, li_2, li_3, li_4, li_5, li_6, li_7, li_8, li_9, li_10, li_11, li_12, li_13, li_14, li_15, li_16, li_17, li_18, li_19, li_20, li_21, li_22, li_23, li_24, li_25, li_26, li_27, li_28, li_29, li_30, li_31, li_32, li_33, li_34, li_35, li_36, li_37, li_38, li_39, li_40, li_41, li_42, li_43, li_44, li_45, li_46, li_47, li_48, li_49, li_50, li_51, li_52, li_53, li_54, li_55, li_56, li_57, li_58, li_59, li_60, li_61, li_62, li_63, li_71, li_72, li_73, li_81, li_82, li_97, li_98, li_99, li_100, li_101, li_102, li_105, li_110, li_111, li_116, li_117, li_126, li_161, li_233, li_932, li_1165, li_10000, li_100000, n_lt_t, n_lt_f, n_eq_t, n_eq_f, nI_add, n_sub, n_mul, n_ix, n_ckd, bnd_e, obn_s, zrk_0, zrk_1, zrk_b, zb_0, zb_1, zb_b, if_true, if_false, Bool.toNat_true, Bool.toNat_false, b0, b1, Bool.false_eq_true, Bool.true_eq_false, hc]
    rw [if_neg e]
theorem ag_6 (h : RW M w S n k q) {p : Nat} (hp : p < n) : ∃ M', f_X7_againstEarthing w M (nI p) = some (nI (rfS S n k 6 p), M') ∧ Scr w M' M := by
  have hn := h.nlow
  obtain ⟨h1, h2, h3, h4, h5, h6⟩ := h.se hp
  refine ⟨M, ?_, Scr.refl⟩
  unfold f_X7_againstEarthing b_X7_againstEarthing_48
  rw [rf_6]
  simp (disch := omega) only [li_0, li_1, li_2, li_3, li_4, li_5, li_6, li_7, li_8, li_9, li_10, li_11, li_12, li_13, li_14, li_15, li_16, li_17, li_18, li_19, li_20, li_21, li_22, li_23, li_24, li_25, li_26, li_27, li_28, li_29, li_30, li_31, li_32, li_33, li_34, li_35, li_36, li_37, li_38, li_39, li_40, li_41, li_42, li_43, li_44, li_45, li_46, li_47, li_48, li_49, li_50, li_51, li_52, li_53, li_54, li_55, li_56, li_57, li_58, li_59, li_60, li_61, li_62, li_63, li_71, li_72, li_73, li_81, li_82, li_97, li_98, li_99, li_100, li_101, li_102, li_105, li_110, li_111, li_116, li_117, li_126, li_161, li_233, li_932, li_1165, li_10000, li_100000, n_lt_t, n_lt_f, n_eq_t, n_eq_f, nI_add, n_sub, n_mul, n_ix, n_ckd, bnd_e, obn_s, zrk_0, zrk_1, zrk_b, zb_0, zb_1, zb_b, if_true, if_false, Bool.toNat_true, Bool.toNat_false, b0, b1, Bool.false_eq_true, Bool.true_eq_false, h2, h.lv (show p < 10 by omega), h3]
  cases bS S 3 p <;> cases lvS S n k p <;> cases bS S 2 p <;> simp
theorem ag_7 (h : RW M w S n k q) {p : Nat} (hp : p < n) : ∃ M', f_X7_againstTakingEarth w M (nI p) = some (nI (rfS S n k 7 p), M') ∧ Scr w M' M := by
  have hn := h.nlow
  obtain ⟨h1, h2, h3, h4, h5, h6⟩ := h.se hp
  refine ⟨M, ?_, Scr.refl⟩
  unfold f_X7_againstTakingEarth b_X7_againstTakingEarth_33
  rw [rf_7]
  simp (disch := omega) only [li_0, li_1, li_2, li_3, li_4, li_5, li_6, li_7, li_8, li_9, li_10, li_11, li_12, li_13, li_14, li_15, li_16, li_17, li_18, li_19, li_20, li_21, li_22, li_23, li_24, li_25, li_26, li_27, li_28, li_29, li_30, li_31, li_32, li_33, li_34, li_35, li_36, li_37, li_38, li_39, li_40, li_41, li_42, li_43, li_44, li_45, li_46, li_47, li_48, li_49, li_50, li_51, li_52, li_53, li_54, li_55, li_56, li_57, li_58, li_59, li_60, li_61, li_62, li_63, li_71, li_72, li_73, li_81, li_82, li_97, li_98, li_99, li_100, li_101, li_102, li_105, li_110, li_111, li_116, li_117, li_126, li_161, li_233, li_932, li_1165, li_10000, li_100000, n_lt_t, n_lt_f, n_eq_t, n_eq_f, nI_add, n_sub, n_mul, n_ix, n_ckd, bnd_e, obn_s, zrk_0, zrk_1, zrk_b, zb_0, zb_1, zb_b, if_true, if_false, Bool.toNat_true, Bool.toNat_false, b0, b1, Bool.false_eq_true, Bool.true_eq_false, h4, h3]
  cases bS S 3 p <;> cases bS S 4 p <;> simp
theorem reason_ok (h : RW M w S n k q) {x p : Nat} (hx : x < 8) (hp : plc n k x p) : ∃ M', f_X7_reasonAgainst w M (nI x) (nI p) = some (nI (rfS S n k x p), M') ∧ Scr w M' M := by
  unfold f_X7_reasonAgainst
  match x, hx with
  | 0, _ => obtain ⟨M', e, g⟩ := ag_0 h (p := p) hp; exact ⟨M', by simp (disch := omega) only [li_0, li_1, li_2, li_3, li_4, li_5, li_6, li_7, li_8, li_9, li_10, li_11, li_12, li_13, li_14, li_15, li_16, li_17, li_18, li_19, li_20, li_21, li_22, li_23, li_24, li_25, li_26, li_27, li_28, li_29, li_30, li_31, li_32, li_33, li_34, li_35, li_36, li_37, li_38, li_39, li_40, li_41, li_42, li_43, li_44, li_45, li_46, li_47, li_48, li_49, li_50, li_51, li_52, li_53, li_54, li_55, li_56, li_57, li_58, li_59, li_60, li_61, li_62, li_63, li_71, li_72, li_73, li_81, li_82, li_97, li_98, li_99, li_100, li_101, li_102, li_105, li_110, li_111, li_116, li_117, li_126, li_161, li_233, li_932, li_1165, li_10000, li_100000, n_lt_t, n_lt_f, n_eq_t, n_eq_f, nI_add, n_sub, n_mul, n_ix, n_ckd, bnd_e, obn_s, zrk_0, zrk_1, zrk_b, zb_0, zb_1, zb_b, if_true, if_false, Bool.toNat_true, Bool.toNat_false, b0, b1, Bool.false_eq_true, Bool.true_eq_false, e], g⟩
  | 1, _ => obtain ⟨M', e, g⟩ := ag_1 h (p := p) hp; exact ⟨M', by simp (disch := omega) only [li_0, li_1, li_2, li_3, li_4, li_5, li_6, li_7, li_8, li_9, li_10, li_11, li_12, li_13, li_14, li_15, li_16, li_17, li_18, li_19, li_20, li_21, li_22, li_23, li_24, li_25, li_26, li_27, li_28, li_29, li_30, li_31, li_32, li_33, li_34, li_35, li_36, li_37, li_38, li_39, li_40, li_41, li_42, li_43, li_44, li_45, li_46, li_47, li_48, li_49, li_50, li_51, li_52, li_53, li_54, li_55, li_56, li_57, li_58, li_59, li_60, li_61, li_62, li_63, li_71, li_72, li_73, li_81, li_82, li_97, li_98, li_99, li_100, li_101, li_102, li_105, li_110, li_111, li_116, li_117, li_126, li_161, li_233, li_932, li_1165, li_10000, li_100000, n_lt_t, n_lt_f, n_eq_t, n_eq_f, nI_add, n_sub, n_mul, n_ix, n_ckd, bnd_e, obn_s, zrk_0, zrk_1, zrk_b, zb_0, zb_1, zb_b, if_true, if_false, Bool.toNat_true, Bool.toNat_false, b0, b1, Bool.false_eq_true, Bool.true_eq_false, e], g⟩
  | 2, _ => obtain ⟨M', e, g⟩ := ag_2 h (p := p) hp; exact ⟨M', by simp (disch := omega) only [li_0, li_1, li_2, li_3, li_4, li_5, li_6, li_7, li_8, li_9, li_10, li_11, li_12, li_13, li_14, li_15, li_16, li_17, li_18, li_19, li_20, li_21, li_22, li_23, li_24, li_25, li_26, li_27, li_28, li_29, li_30, li_31, li_32, li_33, li_34, li_35, li_36, li_37, li_38, li_39, li_40, li_41, li_42, li_43, li_44, li_45, li_46, li_47, li_48, li_49, li_50, li_51, li_52, li_53, li_54, li_55, li_56, li_57, li_58, li_59, li_60, li_61, li_62, li_63, li_71, li_72, li_73, li_81, li_82, li_97, li_98, li_99, li_100, li_101, li_102, li_105, li_110, li_111, li_116, li_117, li_126, li_161, li_233, li_932, li_1165, li_10000, li_100000, n_lt_t, n_lt_f, n_eq_t, n_eq_f, nI_add, n_sub, n_mul, n_ix, n_ckd, bnd_e, obn_s, zrk_0, zrk_1, zrk_b, zb_0, zb_1, zb_b, if_true, if_false, Bool.toNat_true, Bool.toNat_false, b0, b1, Bool.false_eq_true, Bool.true_eq_false, e], g⟩
  | 3, _ => obtain ⟨M', e, g⟩ := ag_3 h (p := p) hp; exact ⟨M', by simp (disch := omega) only [li_0, li_1, li_2, li_3, li_4, li_5, li_6, li_7, li_8, li_9, li_10, li_11, li_12, li_13, li_14, li_15, li_16, li_17, li_18, li_19, li_20, li_21, li_22, li_23, li_24, li_25, li_26, li_27, li_28, li_29, li_30, li_31, li_32, li_33, li_34, li_35, li_36, li_37, li_38, li_39, li_40, li_41, li_42, li_43, li_44, li_45, li_46, li_47, li_48, li_49, li_50, li_51, li_52, li_53, li_54, li_55, li_56, li_57, li_58, li_59, li_60, li_61, li_62, li_63, li_71, li_72, li_73, li_81, li_82, li_97, li_98, li_99, li_100, li_101, li_102, li_105, li_110, li_111, li_116, li_117, li_126, li_161, li_233, li_932, li_1165, li_10000, li_100000, n_lt_t, n_lt_f, n_eq_t, n_eq_f, nI_add, n_sub, n_mul, n_ix, n_ckd, bnd_e, obn_s, zrk_0, zrk_1, zrk_b, zb_0, zb_1, zb_b, if_true, if_false, Bool.toNat_true, Bool.toNat_false, b0, b1, Bool.false_eq_true, Bool.true_eq_false, e], g⟩
  | 4, _ => obtain ⟨M', e, g⟩ := ag_4 h (p := p) hp; exact ⟨M', by simp (disch := omega) only [li_0, li_1, li_2, li_3, li_4, li_5, li_6, li_7, li_8, li_9, li_10, li_11, li_12, li_13, li_14, li_15, li_16, li_17, li_18, li_19, li_20, li_21, li_22, li_23, li_24, li_25, li_26, li_27, li_28, li_29, li_30, li_31, li_32, li_33, li_34, li_35, li_36, li_37, li_38, li_39, li_40, li_41, li_42, li_43, li_44, li_45, li_46, li_47, li_48, li_49, li_50, li_51, li_52, li_53, li_54, li_55, li_56, li_57, li_58, li_59, li_60, li_61, li_62, li_63, li_71, li_72, li_73, li_81, li_82, li_97, li_98, li_99, li_100, li_101, li_102, li_105, li_110, li_111, li_116, li_117, li_126, li_161, li_233, li_932, li_1165, li_10000, li_100000, n_lt_t, n_lt_f, n_eq_t, n_eq_f, nI_add, n_sub, n_mul, n_ix, n_ckd, bnd_e, obn_s, zrk_0, zrk_1, zrk_b, zb_0, zb_1, zb_b, if_true, if_false, Bool.toNat_true, Bool.toNat_false, b0, b1, Bool.false_eq_true, Bool.true_eq_false, e], g⟩
  | 5, _ => obtain ⟨M', e, g⟩ := ag_5 h (p := p) hp; exact ⟨M', by simp (disch := omega) only [li_0, li_1, li_2, li_3, li_4, li_5, li_6, li_7, li_8, li_9, li_10, li_11, li_12, li_13, li_14, li_15, li_16, li_17, li_18, li_19, li_20, li_21, li_22, li_23, li_24, li_25, li_26, li_27, li_28, li_29, li_30, li_31, li_32, li_33, li_34, li_35, li_36, li_37, li_38, li_39, li_40, li_41, li_42, li_43, li_44, li_45, li_46, li_47, li_48, li_49, li_50, li_51, li_52, li_53, li_54, li_55, li_56, li_57, li_58, li_59, li_60, li_61, li_62, li_63, li_71, li_72, li_73, li_81, li_82, li_97, li_98, li_99, li_100, li_101, li_102, li_105, li_110, li_111, li_116, li_117, li_126, li_161, li_233, li_932, li_1165, li_10000, li_100000, n_lt_t, n_lt_f, n_eq_t, n_eq_f, nI_add, n_sub, n_mul, n_ix, n_ckd, bnd_e, obn_s, zrk_0, zrk_1, zrk_b, zb_0, zb_1, zb_b, if_true, if_false, Bool.toNat_true, Bool.toNat_false, b0, b1, Bool.false_eq_true, Bool.true_eq_false, e], g⟩
  | 6, _ => obtain ⟨M', e, g⟩ := ag_6 h (p := p) hp; exact ⟨M', by simp (disch := omega) only [li_0, li_1, li_2, li_3, li_4, li_5, li_6, li_7, li_8, li_9, li_10, li_11, li_12, li_13, li_14, li_15, li_16, li_17, li_18, li_19, li_20, li_21, li_22, li_23, li_24, li_25, li_26, li_27, li_28, li_29, li_30, li_31, li_32, li_33, li_34, li_35, li_36, li_37, li_38, li_39, li_40, li_41, li_42, li_43, li_44, li_45, li_46, li_47, li_48, li_49, li_50, li_51, li_52, li_53, li_54, li_55, li_56, li_57, li_58, li_59, li_60, li_61, li_62, li_63, li_71, li_72, li_73, li_81, li_82, li_97, li_98, li_99, li_100, li_101, li_102, li_105, li_110, li_111, li_116, li_117, li_126, li_161, li_233, li_932, li_1165, li_10000, li_100000, n_lt_t, n_lt_f, n_eq_t, n_eq_f, nI_add, n_sub, n_mul, n_ix, n_ckd, bnd_e, obn_s, zrk_0, zrk_1, zrk_b, zb_0, zb_1, zb_b, if_true, if_false, Bool.toNat_true, Bool.toNat_false, b0, b1, Bool.false_eq_true, Bool.true_eq_false, e], g⟩
  | 7, _ => obtain ⟨M', e, g⟩ := ag_7 h (p := p) hp; exact ⟨M', by simp (disch := omega) only [li_0, li_1, li_2, li_3, li_4, li_5, li_6, li_7, li_8, li_9, li_10, li_11, li_12, li_13, li_14, li_15, li_16, li_17, li_18, li_19, li_20, li_21, li_22, li_23, li_24, li_25, li_26, li_27, li_28, li_29, li_30, li_31, li_32, li_33, li_34, li_35, li_36, li_37, li_38, li_39, li_40, li_41, li_42, li_43, li_44, li_45, li_46, li_47, li_48, li_49, li_50, li_51, li_52, li_53, li_54, li_55, li_56, li_57, li_58, li_59, li_60, li_61, li_62, li_63, li_71, li_72, li_73, li_81, li_82, li_97, li_98, li_99, li_100, li_101, li_102, li_105, li_110, li_111, li_116, li_117, li_126, li_161, li_233, li_932, li_1165, li_10000, li_100000, n_lt_t, n_lt_f, n_eq_t, n_eq_f, nI_add, n_sub, n_mul, n_ix, n_ckd, bnd_e, obn_s, zrk_0, zrk_1, zrk_b, zb_0, zb_1, zb_b, if_true, if_false, Bool.toNat_true, Bool.toNat_false, b0, b1, Bool.false_eq_true, Bool.true_eq_false, e], g⟩
end CR

