/-! the class's net and service: questions -/
section CQ
variable {a : Nat} {M : Mm} {n k q : Nat} {f u v : Nat → Nat} {c : Nat → Bool}
theorem outside_ok (x y z : Int32) : f_X8_isOutside M x y z = some (nI (!inB x y z).toNat, M) := by
  unfold f_X8_isOutside b_X8_isOutside_10 b_X8_isOutside_15 inB
  by_cases h1 : x < y
  · simp [h1]; rfl
  · by_cases h2 : z < x
    · simp [h1, h2]; rfl
    · simp [h1, h2]; rfl
theorem asNumber_ok (b : Bool) : f_X8_asNumber M (nI b.toNat) = some (nI b.toNat, M) := by
  unfold f_X8_asNumber b_X8_asNumber_9
  cases b <;> simp (disch := omega) only [li_0, li_1, li_2, li_3, li_4, li_5, li_6, li_7, li_8, li_9, li_10, li_11, li_12, li_13, li_14, li_15, li_16, li_17, li_18, li_19, li_20, li_21, li_22, li_23, li_24, li_25, li_26, li_27, li_28, li_29, li_30, li_31, li_32, li_33, li_34, li_35, li_36, li_37, li_38, li_39, li_40, li_41, li_42, li_43, li_44, li_45, li_46, li_47, li_48, li_49, li_50, li_51, li_52, li_53, li_54, li_55, li_56, li_57, li_58, li_59, li_60, li_61, li_62, li_63, li_71, li_72, li_73, li_81, li_82, li_97, li_98, li_99, li_100, li_101, li_102, li_105, li_110, li_111, li_116, li_117, li_126, li_161, li_233, li_932, li_1165, li_10000, li_100000, n_lt_t, n_lt_f, n_eq_t, n_eq_f, nI_add, n_sub, n_mul, n_ix, n_ckd, bnd_e, obn_s, zrk_0, zrk_1, zrk_b, zb_0, zb_1, zb_b, if_true, if_false, Bool.toNat_true, Bool.toNat_false, b0, b1, Bool.false_eq_true, Bool.true_eq_false]
theorem countTrue_ok {p : Nat → Bool} (h : ∀ i, i < 10 → zb (M a i) = nI (p i).toNat) : f_X8_countTrue a M = some (nI (fb_ct p 10), M) := by
  unfold f_X8_countTrue
  refine loop_up (fun k' (z : Mm × Int32 × Int32) => l_X8_countTrue_4 a k' z.1 z.2.1 z.2.2) (fun i => (M, nI (fb_ct p i), nI i)) 10 _ ?_ ?_ FU 0 (Nat.zero_le _) (by show _ < 4000; omega)
  · intro k' i hi
    show l_X8_countTrue_4 a (k' + 1) M _ (nI i) = l_X8_countTrue_4 a k' M _ (nI (i + 1))
    rw [l_X8_countTrue_4, fb_ct_succ]
    simp (disch := omega) only [li_0, li_1, li_2, li_3, li_4, li_5, li_6, li_7, li_8, li_9, li_10, li_11, li_12, li_13, li_14, li_15, li_16, li_17, li_18, li_19, li_20, li_21, li_22, li_23, li_24, li_25, li_26, li_27, li_28, li_29, li_30, li_31, li_32, li_33, li_34, li_35, li_36, li_37, li_38, li_39, li_40, li_41, li_42, li_43, li_44, li_45, li_46, li_47, li_48, li_49, li_50, li_51, li_52, li_53, li_54, li_55, li_56, li_57, li_58, li_59, li_60, li_61, li_62, li_63, li_71, li_72, li_73, li_81, li_82, li_97, li_98, li_99, li_100, li_101, li_102, li_105, li_110, li_111, li_116, li_117, li_126, li_161, li_233, li_932, li_1165, li_10000, li_100000, n_lt_t, n_lt_f, n_eq_t, n_eq_f, nI_add, n_sub, n_mul, n_ix, n_ckd, bnd_e, obn_s, zrk_0, zrk_1, zrk_b, zb_0, zb_1, zb_b, if_true, if_false, Bool.toNat_true, Bool.toNat_false, b0, b1, Bool.false_eq_true, Bool.true_eq_false, h i hi, b_X8_countTrue_19]
    cases p i <;> simp only [li_0, li_1, li_2, li_3, li_4, li_5, li_6, li_7, li_8, li_9, li_10, li_11, li_12, li_13, li_14, li_15, li_16, li_17, li_18, li_19, li_20, li_21, li_22, li_23, li_24, li_25, li_26, li_27, li_28, li_29, li_30, li_31, li_32, li_33, li_34, li_35, li_36, li_37, li_38, li_39, li_40, li_41, li_42, li_43, li_44, li_45, li_46, li_47, li_48, li_49, li_50, li_51, li_52, li_53, li_54, li_55, li_56, li_57, li_58, li_59, li_60, li_61, li_62, li_63, li_71, li_72, li_73, li_81, li_82, li_97, li_98, li_99, li_100, li_101, li_102, li_105, li_110, li_111, li_116, li_117, li_126, li_161, li_233, li_932, li_1165, li_10000, li_100000, n_lt_t, n_lt_f, n_eq_t, n_eq_f, nI_add, n_sub, n_mul, n_ix, n_ckd, bnd_e, obn_s, zrk_0, zrk_1, zrk_b, zb_0, zb_1, zb_b, if_true, if_false, Bool.toNat_true, Bool.toNat_false, b0, b1, Bool.false_eq_true, Bool.true_eq_false, Nat.add_zero]
  · intro k'
    show l_X8_countTrue_4 a (k' + 1) M _ (nI 10) = _
    rw [l_X8_countTrue_4]
    simp (disch := omega) only [li_0, li_1, li_2, li_3, li_4, li_5, li_6, li_7, li_8, li_9, li_10, li_11, li_12, li_13, li_14, li_15, li_16, li_17, li_18, li_19, li_20, li_21, li_22, li_23, li_24, li_25, li_26, li_27, li_28, li_29, li_30, li_31, li_32, li_33, li_34, li_35, li_36, li_37, li_38, li_39, li_40, li_41, li_42, li_43, li_44, li_45, li_46, li_47, li_48, li_49, li_50, li_51, li_52, li_53, li_54, li_55, li_56, li_57, li_58, li_59, li_60, li_61, li_62, li_63, li_71, li_72, li_73, li_81, li_82, li_97, li_98, li_99, li_100, li_101, li_102, li_105, li_110, li_111, li_116, li_117, li_126, li_161, li_233, li_932, li_1165, li_10000, li_100000, n_lt_t, n_lt_f, n_eq_t, n_eq_f, nI_add, n_sub, n_mul, n_ix, n_ckd, bnd_e, obn_s, zrk_0, zrk_1, zrk_b, zb_0, zb_1, zb_b, if_true, if_false, Bool.toNat_true, Bool.toNat_false, b0, b1, Bool.false_eq_true, Bool.true_eq_false]
/-- two sections hang together, by their labels -/
theorem tog_ok (h : nN M a n k f u v c) {s t : Nat} (hs : s < n) (ht : t < n) : ∃ b : Bool, f_X2_areTogether a M (nI s) (nI t) = some (nI b.toNat, M) ∧ (b = true ↔ cn k u v c s t) := by
  obtain ⟨⟨⟨hn, hk, e0, e1⟩, hF, hI⟩, ⟨lo, hlo⟩, hV⟩ := h
  obtain ⟨s1, s2, s3, s4⟩ := hlo s hs
  obtain ⟨t1, t2, t3, t4⟩ := hlo t ht
  refine ⟨decide (lo s = lo t), ?_, ?_⟩
  · unfold f_X2_areTogether
    simp (disch := omega) only [li_0, li_1, li_2, li_3, li_4, li_5, li_6, li_7, li_8, li_9, li_10, li_11, li_12, li_13, li_14, li_15, li_16, li_17, li_18, li_19, li_20, li_21, li_22, li_23, li_24, li_25, li_26, li_27, li_28, li_29, li_30, li_31, li_32, li_33, li_34, li_35, li_36, li_37, li_38, li_39, li_40, li_41, li_42, li_43, li_44, li_45, li_46, li_47, li_48, li_49, li_50, li_51, li_52, li_53, li_54, li_55, li_56, li_57, li_58, li_59, li_60, li_61, li_62, li_63, li_71, li_72, li_73, li_81, li_82, li_97, li_98, li_99, li_100, li_101, li_102, li_105, li_110, li_111, li_116, li_117, li_126, li_161, li_233, li_932, li_1165, li_10000, li_100000, n_lt_t, n_lt_f, n_eq_t, n_eq_f, nI_add, n_sub, n_mul, n_ix, n_ckd, bnd_e, obn_s, zrk_0, zrk_1, zrk_b, zb_0, zb_1, zb_b, if_true, if_false, Bool.toNat_true, Bool.toNat_false, b0, b1, Bool.false_eq_true, Bool.true_eq_false, s1, t1, b_X2_areTogether_20]
    simp (disch := omega) only [n_eq]
    by_cases g : lo s = lo t <;> simp [g]
  · rw [decide_eq_true_eq]
    constructor
    · intro g
      exact cn_tr s3 (by rw [g]; exact cn_sy t3)
    · intro g
      have a1 := s4 _ (cn_tr g t3)
      have a2 := t4 _ (cn_tr (cn_sy g) s3)
      omega
theorem ct_its (hn : n ≤ 10) (hb : ∀ i, i < k → u i < n ∧ v i < n) {s : Nat} (hs : s < n) {p : Nat → Bool} (hp : ∀ t, t < n → (p t = true ↔ cn k u v c t s)) : fb_ct p n = fb_ct (its (ps u v c k) 10 (fun y => y == s)) 10 := by
  have h1 : ∀ x, its (ps u v c k) 10 (fun y => y == s) x = true ↔ cn k u v c s x := fun x => by
    rw [its_iff hb (T := fun y => y == s) (fun y hy => by simp at hy; omega) (by omega)]
    constructor
    · rintro ⟨y, h1, h2⟩
      simp at h1
      rw [← h1]; exact h2
    · intro h
      exact ⟨s, by simp, h⟩
  have h2 := ct_z (p := its (ps u v c k) 10 (fun y => y == s)) (n := n) (d := 10 - n) (fun i hi _ => by
    cases hq : its (ps u v c k) 10 (fun y => y == s) i
    · rfl
    · have := cn_lt hb ((h1 i).mp hq) hs
      omega)
  rw [show n + (10 - n) = 10 by omega] at h2
  rw [h2]
  refine fb_ct_cong fun t ht => ?_
  rw [Bool.eq_iff_iff, hp t ht, h1]
  exact ⟨cn_sy, cn_sy⟩
theorem groupSize_ok (h : nN M a n k f u v c) {s : Nat} (hs : s < n) : f_X2_groupSize a M (nI s) = some (nI (fb_ct (its (ps u v c k) 10 (fun y => y == s)) 10), M) := by
  have hh := h
  obtain ⟨⟨⟨hn, hk, e0, e1⟩, hF, hI⟩, -, -⟩ := h
  have hex : ∃ p : Nat → Bool, ∀ t, t < n → f_X2_areTogether a M (nI t) (nI s) = some (nI (p t).toNat, M) ∧ (p t = true ↔ cn k u v c t s) := by
    have : ∀ t, ∃ b : Bool, t < n → f_X2_areTogether a M (nI t) (nI s) = some (nI b.toNat, M) ∧ (b = true ↔ cn k u v c t s) := fun t => by
      by_cases q : t < n
      · obtain ⟨b, hb⟩ := tog_ok hh q hs
        exact ⟨b, fun _ => hb⟩
      · exact ⟨false, fun h => absurd h q⟩
    exact ⟨fun t => Classical.choose (this t), fun t => Classical.choose_spec (this t)⟩
  obtain ⟨p, hp⟩ := hex
  rw [← ct_its hn (fun i hi => ⟨(hI i hi).1.2, (hI i hi).2.1.2⟩) hs (fun t ht => (hp t ht).2)]
  unfold f_X2_groupSize
  refine loop_up (fun k' (z : Mm × Int32 × Int32) => l_X2_groupSize_4 a (nI s) k' z.1 z.2.1 z.2.2) (fun i => (M, nI (fb_ct p i), nI i)) n _ ?_ ?_ FU 0 (Nat.zero_le _) (by show _ < 4000; omega)
  · intro k' i hi
    show l_X2_groupSize_4 a (nI s) (k' + 1) M _ (nI i) = l_X2_groupSize_4 a (nI s) k' M _ (nI (i + 1))
    rw [l_X2_groupSize_4, fb_ct_succ]
    simp (disch := omega) only [li_0, li_1, li_2, li_3, li_4, li_5, li_6, li_7, li_8, li_9, li_10, li_11, li_12, li_13, li_14, li_15, li_16, li_17, li_18, li_19, li_20, li_21, li_22, li_23, li_24, li_25, li_26, li_27, li_28, li_29, li_30, li_31, li_32, li_33, li_34, li_35, li_36, li_37, li_38, li_39, li_40, li_41, li_42, li_43, li_44, li_45, li_46, li_47, li_48, li_49, li_50, li_51, li_52, li_53, li_54, li_55, li_56, li_57, li_58, li_59, li_60, li_61, li_62, li_63, li_71, li_72, li_73, li_81, li_82, li_97, li_98, li_99, li_100, li_101, li_102, li_105, li_110, li_111, li_116, li_117, li_126, li_161, li_233, li_932, li_1165, li_10000, li_100000, n_lt_t, n_lt_f, n_eq_t, n_eq_f, nI_add, n_sub, n_mul, n_ix, n_ckd, bnd_e, obn_s, zrk_0, zrk_1, zrk_b, zb_0, zb_1, zb_b, if_true, if_false, Bool.toNat_true, Bool.toNat_false, b0, b1, Bool.false_eq_true, Bool.true_eq_false, e0, (hp i hi).1, b_X2_groupSize_24]
    cases p i <;> simp only [li_0, li_1, li_2, li_3, li_4, li_5, li_6, li_7, li_8, li_9, li_10, li_11, li_12, li_13, li_14, li_15, li_16, li_17, li_18, li_19, li_20, li_21, li_22, li_23, li_24, li_25, li_26, li_27, li_28, li_29, li_30, li_31, li_32, li_33, li_34, li_35, li_36, li_37, li_38, li_39, li_40, li_41, li_42, li_43, li_44, li_45, li_46, li_47, li_48, li_49, li_50, li_51, li_52, li_53, li_54, li_55, li_56, li_57, li_58, li_59, li_60, li_61, li_62, li_63, li_71, li_72, li_73, li_81, li_82, li_97, li_98, li_99, li_100, li_101, li_102, li_105, li_110, li_111, li_116, li_117, li_126, li_161, li_233, li_932, li_1165, li_10000, li_100000, n_lt_t, n_lt_f, n_eq_t, n_eq_f, nI_add, n_sub, n_mul, n_ix, n_ckd, bnd_e, obn_s, zrk_0, zrk_1, zrk_b, zb_0, zb_1, zb_b, if_true, if_false, Bool.toNat_true, Bool.toNat_false, b0, b1, Bool.false_eq_true, Bool.true_eq_false, Nat.add_zero]
  · intro k'
    show l_X2_groupSize_4 a (nI s) (k' + 1) M _ (nI n) = _
    rw [l_X2_groupSize_4]
    simp (disch := omega) only [li_0, li_1, li_2, li_3, li_4, li_5, li_6, li_7, li_8, li_9, li_10, li_11, li_12, li_13, li_14, li_15, li_16, li_17, li_18, li_19, li_20, li_21, li_22, li_23, li_24, li_25, li_26, li_27, li_28, li_29, li_30, li_31, li_32, li_33, li_34, li_35, li_36, li_37, li_38, li_39, li_40, li_41, li_42, li_43, li_44, li_45, li_46, li_47, li_48, li_49, li_50, li_51, li_52, li_53, li_54, li_55, li_56, li_57, li_58, li_59, li_60, li_61, li_62, li_63, li_71, li_72, li_73, li_81, li_82, li_97, li_98, li_99, li_100, li_101, li_102, li_105, li_110, li_111, li_116, li_117, li_126, li_161, li_233, li_932, li_1165, li_10000, li_100000, n_lt_t, n_lt_f, n_eq_t, n_eq_f, nI_add, n_sub, n_mul, n_ix, n_ckd, bnd_e, obn_s, zrk_0, zrk_1, zrk_b, zb_0, zb_1, zb_b, if_true, if_false, Bool.toNat_true, Bool.toNat_false, b0, b1, Bool.false_eq_true, Bool.true_eq_false, e0]
/-- the groups are counted by their lowest sections -/
theorem groups_ok (h : nN M a n k f u v c) : ∃ p : Nat → Bool, f_X2_groups a M = some (nI (fb_ct p n), M) ∧ ∀ s, s < n → (p s = true ↔ ∀ t, t < s → ¬ cn k u v c t s) := by
  obtain ⟨⟨⟨hn, hk, e0, e1⟩, hF, hI⟩, ⟨lo, hlo⟩, hV⟩ := h
  refine ⟨fun s => decide (lo s = s), ?_, fun s hs => ?_⟩
  · unfold f_X2_groups
    refine loop_up (fun k' (z : Mm × Int32 × Int32) => l_X2_groups_4 a k' z.1 z.2.1 z.2.2) (fun i => (M, nI (fb_ct (fun s => decide (lo s = s)) i), nI i)) n _ ?_ ?_ FU 0 (Nat.zero_le _) (by show _ < 4000; omega)
    · intro k' i hi
      show l_X2_groups_4 a (k' + 1) M _ (nI i) = l_X2_groups_4 a k' M _ (nI (i + 1))
      obtain ⟨s1, s2, -⟩ := hlo i hi
      rw [l_X2_groups_4, fb_ct_succ]
      simp (disch := omega) only [li_0, li_1, li_2, li_3, li_4, li_5, li_6, li_7, li_8, li_9, li_10, li_11, li_12, li_13, li_14, li_15, li_16, li_17, li_18, li_19, li_20, li_21, li_22, li_23, li_24, li_25, li_26, li_27, li_28, li_29, li_30, li_31, li_32, li_33, li_34, li_35, li_36, li_37, li_38, li_39, li_40, li_41, li_42, li_43, li_44, li_45, li_46, li_47, li_48, li_49, li_50, li_51, li_52, li_53, li_54, li_55, li_56, li_57, li_58, li_59, li_60, li_61, li_62, li_63, li_71, li_72, li_73, li_81, li_82, li_97, li_98, li_99, li_100, li_101, li_102, li_105, li_110, li_111, li_116, li_117, li_126, li_161, li_233, li_932, li_1165, li_10000, li_100000, n_lt_t, n_lt_f, n_eq_t, n_eq_f, nI_add, n_sub, n_mul, n_ix, n_ckd, bnd_e, obn_s, zrk_0, zrk_1, zrk_b, zb_0, zb_1, zb_b, if_true, if_false, Bool.toNat_true, Bool.toNat_false, b0, b1, Bool.false_eq_true, Bool.true_eq_false, e0, s1, b_X2_groups_25]
      simp (disch := omega) only [n_eq]
      by_cases g : lo i = i <;> simp [g]
    · intro k'
      show l_X2_groups_4 a (k' + 1) M _ (nI n) = _
      rw [l_X2_groups_4]
      simp (disch := omega) only [li_0, li_1, li_2, li_3, li_4, li_5, li_6, li_7, li_8, li_9, li_10, li_11, li_12, li_13, li_14, li_15, li_16, li_17, li_18, li_19, li_20, li_21, li_22, li_23, li_24, li_25, li_26, li_27, li_28, li_29, li_30, li_31, li_32, li_33, li_34, li_35, li_36, li_37, li_38, li_39, li_40, li_41, li_42, li_43, li_44, li_45, li_46, li_47, li_48, li_49, li_50, li_51, li_52, li_53, li_54, li_55, li_56, li_57, li_58, li_59, li_60, li_61, li_62, li_63, li_71, li_72, li_73, li_81, li_82, li_97, li_98, li_99, li_100, li_101, li_102, li_105, li_110, li_111, li_116, li_117, li_126, li_161, li_233, li_932, li_1165, li_10000, li_100000, n_lt_t, n_lt_f, n_eq_t, n_eq_f, nI_add, n_sub, n_mul, n_ix, n_ckd, bnd_e, obn_s, zrk_0, zrk_1, zrk_b, zb_0, zb_1, zb_b, if_true, if_false, Bool.toNat_true, Bool.toNat_false, b0, b1, Bool.false_eq_true, Bool.true_eq_false, e0]
  · obtain ⟨s1, s2, s3, s4⟩ := hlo s hs
    simp only [decide_eq_true_eq]
    constructor
    · intro g t ht hc
      have := s4 _ (cn_sy hc)
      omega
    · intro g
      rcases Nat.lt_or_ge (lo s) s with z | z
      · exact absurd (cn_sy s3) (g _ z)
      · omega
theorem closedAt1_ok (h : nN M a n k f u v c) {i s : Nat} (hi : i < k) (hs : s < 10) : f_X2_isClosedAt a M (nI i) (nI s) = some (nI (c i && (u i == s || v i == s)).toNat, M) := by
  obtain ⟨⟨⟨hn, hk, e0, e1⟩, hF, hI⟩, -⟩ := h
  obtain ⟨⟨h1, h2⟩, ⟨h3, h4⟩, h5⟩ := hI i hi
  unfold f_X2_isClosedAt
  simp (disch := omega) only [li_0, li_1, li_2, li_3, li_4, li_5, li_6, li_7, li_8, li_9, li_10, li_11, li_12, li_13, li_14, li_15, li_16, li_17, li_18, li_19, li_20, li_21, li_22, li_23, li_24, li_25, li_26, li_27, li_28, li_29, li_30, li_31, li_32, li_33, li_34, li_35, li_36, li_37, li_38, li_39, li_40, li_41, li_42, li_43, li_44, li_45, li_46, li_47, li_48, li_49, li_50, li_51, li_52, li_53, li_54, li_55, li_56, li_57, li_58, li_59, li_60, li_61, li_62, li_63, li_71, li_72, li_73, li_81, li_82, li_97, li_98, li_99, li_100, li_101, li_102, li_105, li_110, li_111, li_116, li_117, li_126, li_161, li_233, li_932, li_1165, li_10000, li_100000, n_lt_t, n_lt_f, n_eq_t, n_eq_f, nI_add, n_sub, n_mul, n_ix, n_ckd, bnd_e, obn_s, zrk_0, zrk_1, zrk_b, zb_0, zb_1, zb_b, if_true, if_false, Bool.toNat_true, Bool.toNat_false, b0, b1, Bool.false_eq_true, Bool.true_eq_false, h5, h1, h3, b_X2_isClosedAt_29, b_X2_isClosedAt_33, b_X2_isClosedAt_34]
  simp (disch := omega) only [n_eq]
  have q1 : (u i == s) = decide (u i = s) := by by_cases q : u i = s <;> simp [q]
  have q2 : (v i == s) = decide (v i = s) := by by_cases q : v i = s <;> simp [q]
  rw [q1, q2]
  cases c i <;> by_cases g1 : u i = s <;> by_cases g2 : v i = s <;> simp [g1, g2]
theorem closedAt_ok (h : nN M a n k f u v c) {s : Nat} (hs : s < 10) : f_X2_closedAt a M (nI s) = some (nI (fb_ct (fun i => c i && (u i == s || v i == s)) k), M) := by
  have hh := h
  obtain ⟨⟨⟨hn, hk, e0, e1⟩, hF, hI⟩, -⟩ := h
  unfold f_X2_closedAt
  refine loop_up (fun k' (z : Mm × Int32 × Int32) => l_X2_closedAt_4 a (nI s) k' z.1 z.2.1 z.2.2) (fun i => (M, nI (fb_ct (fun i => c i && (u i == s || v i == s)) i), nI i)) k _ ?_ ?_ FU 0 (Nat.zero_le _) (by show _ < 4000; omega)
  · intro k' i hi
    show l_X2_closedAt_4 a (nI s) (k' + 1) M _ (nI i) = l_X2_closedAt_4 a (nI s) k' M _ (nI (i + 1))
    rw [l_X2_closedAt_4, fb_ct_succ]
    simp (disch := omega) only [li_0, li_1, li_2, li_3, li_4, li_5, li_6, li_7, li_8, li_9, li_10, li_11, li_12, li_13, li_14, li_15, li_16, li_17, li_18, li_19, li_20, li_21, li_22, li_23, li_24, li_25, li_26, li_27, li_28, li_29, li_30, li_31, li_32, li_33, li_34, li_35, li_36, li_37, li_38, li_39, li_40, li_41, li_42, li_43, li_44, li_45, li_46, li_47, li_48, li_49, li_50, li_51, li_52, li_53, li_54, li_55, li_56, li_57, li_58, li_59, li_60, li_61, li_62, li_63, li_71, li_72, li_73, li_81, li_82, li_97, li_98, li_99, li_100, li_101, li_102, li_105, li_110, li_111, li_116, li_117, li_126, li_161, li_233, li_932, li_1165, li_10000, li_100000, n_lt_t, n_lt_f, n_eq_t, n_eq_f, nI_add, n_sub, n_mul, n_ix, n_ckd, bnd_e, obn_s, zrk_0, zrk_1, zrk_b, zb_0, zb_1, zb_b, if_true, if_false, Bool.toNat_true, Bool.toNat_false, b0, b1, Bool.false_eq_true, Bool.true_eq_false, e1, closedAt1_ok hh hi hs, b_X2_closedAt_24]
    cases c i && (u i == s || v i == s) <;> simp only [li_0, li_1, li_2, li_3, li_4, li_5, li_6, li_7, li_8, li_9, li_10, li_11, li_12, li_13, li_14, li_15, li_16, li_17, li_18, li_19, li_20, li_21, li_22, li_23, li_24, li_25, li_26, li_27, li_28, li_29, li_30, li_31, li_32, li_33, li_34, li_35, li_36, li_37, li_38, li_39, li_40, li_41, li_42, li_43, li_44, li_45, li_46, li_47, li_48, li_49, li_50, li_51, li_52, li_53, li_54, li_55, li_56, li_57, li_58, li_59, li_60, li_61, li_62, li_63, li_71, li_72, li_73, li_81, li_82, li_97, li_98, li_99, li_100, li_101, li_102, li_105, li_110, li_111, li_116, li_117, li_126, li_161, li_233, li_932, li_1165, li_10000, li_100000, n_lt_t, n_lt_f, n_eq_t, n_eq_f, nI_add, n_sub, n_mul, n_ix, n_ckd, bnd_e, obn_s, zrk_0, zrk_1, zrk_b, zb_0, zb_1, zb_b, if_true, if_false, Bool.toNat_true, Bool.toNat_false, b0, b1, Bool.false_eq_true, Bool.true_eq_false, Nat.add_zero]
  · intro k'
    show l_X2_closedAt_4 a (nI s) (k' + 1) M _ (nI k) = _
    rw [l_X2_closedAt_4]
    simp (disch := omega) only [li_0, li_1, li_2, li_3, li_4, li_5, li_6, li_7, li_8, li_9, li_10, li_11, li_12, li_13, li_14, li_15, li_16, li_17, li_18, li_19, li_20, li_21, li_22, li_23, li_24, li_25, li_26, li_27, li_28, li_29, li_30, li_31, li_32, li_33, li_34, li_35, li_36, li_37, li_38, li_39, li_40, li_41, li_42, li_43, li_44, li_45, li_46, li_47, li_48, li_49, li_50, li_51, li_52, li_53, li_54, li_55, li_56, li_57, li_58, li_59, li_60, li_61, li_62, li_63, li_71, li_72, li_73, li_81, li_82, li_97, li_98, li_99, li_100, li_101, li_102, li_105, li_110, li_111, li_116, li_117, li_126, li_161, li_233, li_932, li_1165, li_10000, li_100000, n_lt_t, n_lt_f, n_eq_t, n_eq_f, nI_add, n_sub, n_mul, n_ix, n_ckd, bnd_e, obn_s, zrk_0, zrk_1, zrk_b, zb_0, zb_1, zb_b, if_true, if_false, Bool.toNat_true, Bool.toNat_false, b0, b1, Bool.false_eq_true, Bool.true_eq_false, e1]
/-- the class's service, beside a state of the reference -/
def sB (M : Mm) (a : Nat) (S : Sm) (n : Nat) : Prop :=
  (M a 0 = S 3 ∧ M a 1 = S 2 ∧ M a 2 = S 6) ∧
  (∀ s, s < n → M (a + 1) s = aO S s 0 ∧ zb (M (a + 2) s) = nI (bS S 2 s).toNat ∧ zb (M (a + 3) s) = nI (bS S 3 s).toNat ∧ zb (M (a + 4) s) = nI (bS S 4 s).toNat ∧ (bS S 4 s = true → M (a + 5) s = aO S s 5 ∧ M (a + 6) s = aO S s 6) ∧ M (a + 7) s = aO S s 7) ∧
  ∀ s, n ≤ s → s < 10 → zb (M (a + 2) s) = nI 0 ∧ zb (M (a + 3) s) = nI 0 ∧ zb (M (a + 4) s) = nI 0 ∧ M (a + 7) s = nI 0
variable {S : Sm}
theorem bridging_ok (hn : n ≤ 10) (h : sB M a S n) : f_X5_bridgingBuses a M = some (sumI (buS S) n, M) := by
  obtain ⟨-, h1, h2⟩ := h
  have e : sumI (fun i => if (decide (i < n) && bS S 2 i) = true then aO S i 0 else nI 0) 10 = sumI (buS S) n := by
    have hz := sumI_z (f := fun i => if (decide (i < n) && bS S 2 i) = true then aO S i 0 else nI 0) (n := n) (d := 10 - n) (fun i hi _ => by rw [show decide (i < n) = false by simp; omega]; rfl)
    rw [show n + (10 - n) = 10 by omega] at hz
    rw [hz]
    exact sumI_c fun i hi => by simp [hi, buS]
  rw [← e]
  unfold f_X5_bridgingBuses
  refine loop_up (fun k' (z : Mm × Int32 × Int32) => l_X5_bridgingBuses_4 a k' z.1 z.2.1 z.2.2) (fun i => (M, sumI (fun i => if (decide (i < n) && bS S 2 i) = true then aO S i 0 else nI 0) i, nI i)) 10 _ ?_ ?_ FU 0 (Nat.zero_le _) (by show _ < 4000; omega)
  · intro k' i hi
    show l_X5_bridgingBuses_4 a (k' + 1) M _ (nI i) = l_X5_bridgingBuses_4 a k' M _ (nI (i + 1))
    rw [l_X5_bridgingBuses_4, sumI]
    by_cases q : i < n
    · simp (disch := omega) only [li_0, li_1, li_2, li_3, li_4, li_5, li_6, li_7, li_8, li_9, li_10, li_11, li_12, li_13, li_14, li_15, li_16, li_17, li_18, li_19, li_20, li_21, li_22, li_23, li_24, li_25, li_26, li_27, li_28, li_29, li_30, li_31, li_32, li_33, li_34, li_35, li_36, li_37, li_38, li_39, li_40, li_41, li_42, li_43, li_44, li_45, li_46, li_47, li_48, li_49, li_50, li_51, li_52, li_53, li_54, li_55, li_56, li_57, li_58, li_59, li_60, li_61, li_62, li_63, li_71, li_72, li_73, li_81, li_82, li_97, li_98, li_99, li_100, li_101, li_102, li_105, li_110, li_111, li_116, li_117, li_126, li_161, li_233, li_932, li_1165, li_10000, li_100000, n_lt_t, n_lt_f, n_eq_t, n_eq_f, nI_add, n_sub, n_mul, n_ix, n_ckd, bnd_e, obn_s, zrk_0, zrk_1, zrk_b, zb_0, zb_1, zb_b, if_true, if_false, Bool.toNat_true, Bool.toNat_false, b0, b1, Bool.false_eq_true, Bool.true_eq_false, (h1 i q).2.1, (h1 i q).1, b_X5_bridgingBuses_28, show decide (i < n) = true by simpa using q, Bool.true_and]
      cases bS S 2 i <;> simp only [li_0, li_1, li_2, li_3, li_4, li_5, li_6, li_7, li_8, li_9, li_10, li_11, li_12, li_13, li_14, li_15, li_16, li_17, li_18, li_19, li_20, li_21, li_22, li_23, li_24, li_25, li_26, li_27, li_28, li_29, li_30, li_31, li_32, li_33, li_34, li_35, li_36, li_37, li_38, li_39, li_40, li_41, li_42, li_43, li_44, li_45, li_46, li_47, li_48, li_49, li_50, li_51, li_52, li_53, li_54, li_55, li_56, li_57, li_58, li_59, li_60, li_61, li_62, li_63, li_71, li_72, li_73, li_81, li_82, li_97, li_98, li_99, li_100, li_101, li_102, li_105, li_110, li_111, li_116, li_117, li_126, li_161, li_233, li_932, li_1165, li_10000, li_100000, n_lt_t, n_lt_f, n_eq_t, n_eq_f, nI_add, n_sub, n_mul, n_ix, n_ckd, bnd_e, obn_s, zrk_0, zrk_1, zrk_b, zb_0, zb_1, zb_b, if_true, if_false, Bool.toNat_true, Bool.toNat_false, b0, b1, Bool.false_eq_true, Bool.true_eq_false, add_0]
    · simp (disch := omega) only [li_0, li_1, li_2, li_3, li_4, li_5, li_6, li_7, li_8, li_9, li_10, li_11, li_12, li_13, li_14, li_15, li_16, li_17, li_18, li_19, li_20, li_21, li_22, li_23, li_24, li_25, li_26, li_27, li_28, li_29, li_30, li_31, li_32, li_33, li_34, li_35, li_36, li_37, li_38, li_39, li_40, li_41, li_42, li_43, li_44, li_45, li_46, li_47, li_48, li_49, li_50, li_51, li_52, li_53, li_54, li_55, li_56, li_57, li_58, li_59, li_60, li_61, li_62, li_63, li_71, li_72, li_73, li_81, li_82, li_97, li_98, li_99, li_100, li_101, li_102, li_105, li_110, li_111, li_116, li_117, li_126, li_161, li_233, li_932, li_1165, li_10000, li_100000, n_lt_t, n_lt_f, n_eq_t, n_eq_f, nI_add, n_sub, n_mul, n_ix, n_ckd, bnd_e, obn_s, zrk_0, zrk_1, zrk_b, zb_0, zb_1, zb_b, if_true, if_false, Bool.toNat_true, Bool.toNat_false, b0, b1, Bool.false_eq_true, Bool.true_eq_false, (h2 i (by omega) hi).1, b_X5_bridgingBuses_28, show decide (i < n) = false by simpa using q, Bool.false_and, add_0]
  · intro k'
    show l_X5_bridgingBuses_4 a (k' + 1) M _ (nI 10) = _
    rw [l_X5_bridgingBuses_4]
    simp (disch := omega) only [li_0, li_1, li_2, li_3, li_4, li_5, li_6, li_7, li_8, li_9, li_10, li_11, li_12, li_13, li_14, li_15, li_16, li_17, li_18, li_19, li_20, li_21, li_22, li_23, li_24, li_25, li_26, li_27, li_28, li_29, li_30, li_31, li_32, li_33, li_34, li_35, li_36, li_37, li_38, li_39, li_40, li_41, li_42, li_43, li_44, li_45, li_46, li_47, li_48, li_49, li_50, li_51, li_52, li_53, li_54, li_55, li_56, li_57, li_58, li_59, li_60, li_61, li_62, li_63, li_71, li_72, li_73, li_81, li_82, li_97, li_98, li_99, li_100, li_101, li_102, li_105, li_110, li_111, li_116, li_117, li_126, li_161, li_233, li_932, li_1165, li_10000, li_100000, n_lt_t, n_lt_f, n_eq_t, n_eq_f, nI_add, n_sub, n_mul, n_ix, n_ckd, bnd_e, obn_s, zrk_0, zrk_1, zrk_b, zb_0, zb_1, zb_b, if_true, if_false, Bool.toNat_true, Bool.toNat_false, b0, b1, Bool.false_eq_true, Bool.true_eq_false]
theorem freeBuses_ok (hn : n ≤ 10) (h : sB M a S n) : f_X5_freeBuses a M = some (frS S n, M) := by
  unfold f_X5_freeBuses frS
  rw [bridging_ok hn h, h.1.2.1]
  rfl
theorem allTools_ok (hn : n ≤ 10) (h : sB M a S n) : f_X5_allTools a M = some (sumI (fun s => aO S s 7) n, M) := by
  obtain ⟨-, h1, h2⟩ := h
  have e : sumI (fun i => if i < n then aO S i 7 else nI 0) 10 = sumI (fun s => aO S s 7) n := by
    have hz := sumI_z (f := fun i => if i < n then aO S i 7 else nI 0) (n := n) (d := 10 - n) (fun i hi _ => if_neg (by omega))
    rw [show n + (10 - n) = 10 by omega] at hz
    rw [hz]
    exact sumI_c fun i hi => if_pos hi
  rw [← e]
  unfold f_X5_allTools
  refine loop_up (fun k' (z : Mm × Int32 × Int32) => l_X5_allTools_4 a k' z.1 z.2.1 z.2.2) (fun i => (M, sumI (fun i => if i < n then aO S i 7 else nI 0) i, nI i)) 10 _ ?_ ?_ FU 0 (Nat.zero_le _) (by show _ < 4000; omega)
  · intro k' i hi
    show l_X5_allTools_4 a (k' + 1) M _ (nI i) = l_X5_allTools_4 a k' M _ (nI (i + 1))
    rw [l_X5_allTools_4, sumI]
    by_cases q : i < n
    · simp (disch := omega) only [li_0, li_1, li_2, li_3, li_4, li_5, li_6, li_7, li_8, li_9, li_10, li_11, li_12, li_13, li_14, li_15, li_16, li_17, li_18, li_19, li_20, li_21, li_22, li_23, li_24, li_25, li_26, li_27, li_28, li_29, li_30, li_31, li_32, li_33, li_34, li_35, li_36, li_37, li_38, li_39, li_40, li_41, li_42, li_43, li_44, li_45, li_46, li_47, li_48, li_49, li_50, li_51, li_52, li_53, li_54, li_55, li_56, li_57, li_58, li_59, li_60, li_61, li_62, li_63, li_71, li_72, li_73, li_81, li_82, li_97, li_98, li_99, li_100, li_101, li_102, li_105, li_110, li_111, li_116, li_117, li_126, li_161, li_233, li_932, li_1165, li_10000, li_100000, n_lt_t, n_lt_f, n_eq_t, n_eq_f, nI_add, n_sub, n_mul, n_ix, n_ckd, bnd_e, obn_s, zrk_0, zrk_1, zrk_b, zb_0, zb_1, zb_b, if_true, if_false, Bool.toNat_true, Bool.toNat_false, b0, b1, Bool.false_eq_true, Bool.true_eq_false, (h1 i q).2.2.2.2.2, if_pos q]
    · simp (disch := omega) only [li_0, li_1, li_2, li_3, li_4, li_5, li_6, li_7, li_8, li_9, li_10, li_11, li_12, li_13, li_14, li_15, li_16, li_17, li_18, li_19, li_20, li_21, li_22, li_23, li_24, li_25, li_26, li_27, li_28, li_29, li_30, li_31, li_32, li_33, li_34, li_35, li_36, li_37, li_38, li_39, li_40, li_41, li_42, li_43, li_44, li_45, li_46, li_47, li_48, li_49, li_50, li_51, li_52, li_53, li_54, li_55, li_56, li_57, li_58, li_59, li_60, li_61, li_62, li_63, li_71, li_72, li_73, li_81, li_82, li_97, li_98, li_99, li_100, li_101, li_102, li_105, li_110, li_111, li_116, li_117, li_126, li_161, li_233, li_932, li_1165, li_10000, li_100000, n_lt_t, n_lt_f, n_eq_t, n_eq_f, nI_add, n_sub, n_mul, n_ix, n_ckd, bnd_e, obn_s, zrk_0, zrk_1, zrk_b, zb_0, zb_1, zb_b, if_true, if_false, Bool.toNat_true, Bool.toNat_false, b0, b1, Bool.false_eq_true, Bool.true_eq_false, (h2 i (by omega) hi).2.2.2, if_neg q]
  · intro k'
    show l_X5_allTools_4 a (k' + 1) M _ (nI 10) = _
    rw [l_X5_allTools_4]
    simp (disch := omega) only [li_0, li_1, li_2, li_3, li_4, li_5, li_6, li_7, li_8, li_9, li_10, li_11, li_12, li_13, li_14, li_15, li_16, li_17, li_18, li_19, li_20, li_21, li_22, li_23, li_24, li_25, li_26, li_27, li_28, li_29, li_30, li_31, li_32, li_33, li_34, li_35, li_36, li_37, li_38, li_39, li_40, li_41, li_42, li_43, li_44, li_45, li_46, li_47, li_48, li_49, li_50, li_51, li_52, li_53, li_54, li_55, li_56, li_57, li_58, li_59, li_60, li_61, li_62, li_63, li_71, li_72, li_73, li_81, li_82, li_97, li_98, li_99, li_100, li_101, li_102, li_105, li_110, li_111, li_116, li_117, li_126, li_161, li_233, li_932, li_1165, li_10000, li_100000, n_lt_t, n_lt_f, n_eq_t, n_eq_f, nI_add, n_sub, n_mul, n_ix, n_ckd, bnd_e, obn_s, zrk_0, zrk_1, zrk_b, zb_0, zb_1, zb_b, if_true, if_false, Bool.toNat_true, Bool.toNat_false, b0, b1, Bool.false_eq_true, Bool.true_eq_false]
theorem lateGangs_ok (hn : n ≤ 10) (h : sB M a S n) : f_X5_lateGangs a M = some (nI (fb_ct (fun s => bS S 4 s && decide (aO S s 6 < S 3)) n), M) := by
  obtain ⟨⟨h0, -, -⟩, h1, h2⟩ := h
  rw [← ct_10 hn]
  unfold f_X5_lateGangs
  refine loop_up (fun k' (z : Mm × Int32 × Int32) => l_X5_lateGangs_4 a k' z.1 z.2.1 z.2.2) (fun i => (M, nI (fb_ct (fun i => decide (i < n) && (bS S 4 i && decide (aO S i 6 < S 3))) i), nI i)) 10 _ ?_ ?_ FU 0 (Nat.zero_le _) (by show _ < 4000; omega)
  · intro k' i hi
    show l_X5_lateGangs_4 a (k' + 1) M _ (nI i) = l_X5_lateGangs_4 a k' M _ (nI (i + 1))
    rw [l_X5_lateGangs_4, fb_ct_succ]
    by_cases q : i < n
    · cases hb : bS S 4 i
      · simp (disch := omega) only [li_0, li_1, li_2, li_3, li_4, li_5, li_6, li_7, li_8, li_9, li_10, li_11, li_12, li_13, li_14, li_15, li_16, li_17, li_18, li_19, li_20, li_21, li_22, li_23, li_24, li_25, li_26, li_27, li_28, li_29, li_30, li_31, li_32, li_33, li_34, li_35, li_36, li_37, li_38, li_39, li_40, li_41, li_42, li_43, li_44, li_45, li_46, li_47, li_48, li_49, li_50, li_51, li_52, li_53, li_54, li_55, li_56, li_57, li_58, li_59, li_60, li_61, li_62, li_63, li_71, li_72, li_73, li_81, li_82, li_97, li_98, li_99, li_100, li_101, li_102, li_105, li_110, li_111, li_116, li_117, li_126, li_161, li_233, li_932, li_1165, li_10000, li_100000, n_lt_t, n_lt_f, n_eq_t, n_eq_f, nI_add, n_sub, n_mul, n_ix, n_ckd, bnd_e, obn_s, zrk_0, zrk_1, zrk_b, zb_0, zb_1, zb_b, if_true, if_false, Bool.toNat_true, Bool.toNat_false, b0, b1, Bool.false_eq_true, Bool.true_eq_false, (h1 i q).2.2.2.1, hb, b_X5_lateGangs_35, Bool.false_and, Bool.and_false, Nat.add_zero]
      · have h6 := ((h1 i q).2.2.2.2.1 hb).2
        simp (disch := omega) only [li_0, li_1, li_2, li_3, li_4, li_5, li_6, li_7, li_8, li_9, li_10, li_11, li_12, li_13, li_14, li_15, li_16, li_17, li_18, li_19, li_20, li_21, li_22, li_23, li_24, li_25, li_26, li_27, li_28, li_29, li_30, li_31, li_32, li_33, li_34, li_35, li_36, li_37, li_38, li_39, li_40, li_41, li_42, li_43, li_44, li_45, li_46, li_47, li_48, li_49, li_50, li_51, li_52, li_53, li_54, li_55, li_56, li_57, li_58, li_59, li_60, li_61, li_62, li_63, li_71, li_72, li_73, li_81, li_82, li_97, li_98, li_99, li_100, li_101, li_102, li_105, li_110, li_111, li_116, li_117, li_126, li_161, li_233, li_932, li_1165, li_10000, li_100000, n_lt_t, n_lt_f, n_eq_t, n_eq_f, nI_add, n_sub, n_mul, n_ix, n_ckd, bnd_e, obn_s, zrk_0, zrk_1, zrk_b, zb_0, zb_1, zb_b, if_true, if_false, Bool.toNat_true, Bool.toNat_false, b0, b1, Bool.false_eq_true, Bool.true_eq_false, (h1 i q).2.2.2.1, hb, b_X5_lateGangs_35, h6, h0, show decide (i < n) = true by simpa using q, Bool.true_and]
        by_cases g : aO S i 6 < S 3 <;> simp [g]
    · simp (disch := omega) only [li_0, li_1, li_2, li_3, li_4, li_5, li_6, li_7, li_8, li_9, li_10, li_11, li_12, li_13, li_14, li_15, li_16, li_17, li_18, li_19, li_20, li_21, li_22, li_23, li_24, li_25, li_26, li_27, li_28, li_29, li_30, li_31, li_32, li_33, li_34, li_35, li_36, li_37, li_38, li_39, li_40, li_41, li_42, li_43, li_44, li_45, li_46, li_47, li_48, li_49, li_50, li_51, li_52, li_53, li_54, li_55, li_56, li_57, li_58, li_59, li_60, li_61, li_62, li_63, li_71, li_72, li_73, li_81, li_82, li_97, li_98, li_99, li_100, li_101, li_102, li_105, li_110, li_111, li_116, li_117, li_126, li_161, li_233, li_932, li_1165, li_10000, li_100000, n_lt_t, n_lt_f, n_eq_t, n_eq_f, nI_add, n_sub, n_mul, n_ix, n_ckd, bnd_e, obn_s, zrk_0, zrk_1, zrk_b, zb_0, zb_1, zb_b, if_true, if_false, Bool.toNat_true, Bool.toNat_false, b0, b1, Bool.false_eq_true, Bool.true_eq_false, (h2 i (by omega) hi).2.2.1, b_X5_lateGangs_35, show decide (i < n) = false by simpa using q, Bool.false_and, Nat.add_zero]
  · intro k'
    show l_X5_lateGangs_4 a (k' + 1) M _ (nI 10) = _
    rw [l_X5_lateGangs_4]
    simp (disch := omega) only [li_0, li_1, li_2, li_3, li_4, li_5, li_6, li_7, li_8, li_9, li_10, li_11, li_12, li_13, li_14, li_15, li_16, li_17, li_18, li_19, li_20, li_21, li_22, li_23, li_24, li_25, li_26, li_27, li_28, li_29, li_30, li_31, li_32, li_33, li_34, li_35, li_36, li_37, li_38, li_39, li_40, li_41, li_42, li_43, li_44, li_45, li_46, li_47, li_48, li_49, li_50, li_51, li_52, li_53, li_54, li_55, li_56, li_57, li_58, li_59, li_60, li_61, li_62, li_63, li_71, li_72, li_73, li_81, li_82, li_97, li_98, li_99, li_100, li_101, li_102, li_105, li_110, li_111, li_116, li_117, li_126, li_161, li_233, li_932, li_1165, li_10000, li_100000, n_lt_t, n_lt_f, n_eq_t, n_eq_f, nI_add, n_sub, n_mul, n_ix, n_ckd, bnd_e, obn_s, zrk_0, zrk_1, zrk_b, zb_0, zb_1, zb_b, if_true, if_false, Bool.toNat_true, Bool.toNat_false, b0, b1, Bool.false_eq_true, Bool.true_eq_false]
def AgS (M' : Mm) (a' : Nat) (M : Mm) (a : Nat) : Prop :=
  (M' a' 0 = M a 0 ∧ M' a' 1 = M a 1 ∧ M' a' 2 = M a 2) ∧ ∀ s, s < 10 → M' (a' + 1) s = M (a + 1) s ∧ M' (a' + 2) s = M (a + 2) s ∧ M' (a' + 3) s = M (a + 3) s ∧ M' (a' + 4) s = M (a + 4) s ∧ M' (a' + 5) s = M (a + 5) s ∧ M' (a' + 6) s = M (a + 6) s ∧ M' (a' + 7) s = M (a + 7) s
theorem AgS.sB {M' : Mm} {a' : Nat} (hn : n ≤ 10) (g : AgS M' a' M a) (h : sB M a S n) : sB M' a' S n := by
  obtain ⟨⟨g0, g1, g2⟩, g3⟩ := g
  obtain ⟨⟨h0, h1, h2⟩, h3, h4⟩ := h
  refine ⟨⟨by rw [g0, h0], by rw [g1, h1], by rw [g2, h2]⟩, fun s hs => ?_, fun s h5 h6 => ?_⟩
  · obtain ⟨a1, a2, a3, a4, a5, a6, a7⟩ := g3 s (by omega)
    rw [a1, a2, a3, a4, a5, a6, a7]
    exact h3 s hs
  · obtain ⟨a1, a2, a3, a4, a5, a6, a7⟩ := g3 s h6
    rw [a2, a3, a4, a7]
    exact h4 s h5 h6
theorem copyS_ok {b : Nat} (hab : a + 8 ≤ b ∨ b + 8 ≤ a) : ∃ M', f_X5_copyFrom a b M = some (nI 0, M') ∧ AgS M' a M b ∧ ∀ x, (x < a ∨ a + 8 ≤ x) → M' x = M x := by
  unfold f_X5_copyFrom
  simp (disch := omega) only [li_0, li_1, li_2, li_3, li_4, li_5, li_6, li_7, li_8, li_9, li_10, li_11, li_12, li_13, li_14, li_15, li_16, li_17, li_18, li_19, li_20, li_21, li_22, li_23, li_24, li_25, li_26, li_27, li_28, li_29, li_30, li_31, li_32, li_33, li_34, li_35, li_36, li_37, li_38, li_39, li_40, li_41, li_42, li_43, li_44, li_45, li_46, li_47, li_48, li_49, li_50, li_51, li_52, li_53, li_54, li_55, li_56, li_57, li_58, li_59, li_60, li_61, li_62, li_63, li_71, li_72, li_73, li_81, li_82, li_97, li_98, li_99, li_100, li_101, li_102, li_105, li_110, li_111, li_116, li_117, li_126, li_161, li_233, li_932, li_1165, li_10000, li_100000, n_lt_t, n_lt_f, n_eq_t, n_eq_f, nI_add, n_sub, n_mul, n_ix, n_ckd, bnd_e, obn_s, zrk_0, zrk_1, zrk_b, zb_0, zb_1, zb_b, if_true, if_false, Bool.toNat_true, Bool.toNat_false, b0, b1, Bool.false_eq_true, Bool.true_eq_false, cpk_n]
  refine ⟨_, rfl, ⟨⟨?_, ?_, ?_⟩, fun s hs => ⟨?_, ?_, ?_, ?_, ?_, ?_, ?_⟩⟩, fun x hx => ?_⟩
  all_goals simp (disch := omega) only [mrow_n, mrow_at, mst_n, mst_at, upd_n, upd_at, mst_mrow, cpy_in]
end CQ

