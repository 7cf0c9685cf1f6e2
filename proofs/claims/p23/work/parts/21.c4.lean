/-! the class's log -/
def lB (M : Mm) (a : Nat) (S : Sm) (n k q : Nat) : Prop :=
  (M a 0 = S 4 ∧ M a 1 = nI q) ∧ (∀ j, j < q → M (a + 1) j = aL S j 0 ∧ M (a + 2) j = aL S j 1 ∧ M (a + 3) j = aL S j 2) ∧
  (∀ s, s < n → (M (a + 4) s = nI 2 ↔ bS S 8 s = true)) ∧ ∀ i, i < k → zb (M (a + 5) i) = nI (wS S i).toNat
section CL
variable {a : Nat} {M : Mm} {n k q : Nat} {S : Sm}
theorem setBy_ok {a1 a2 j x p : Nat} (hj : j < 24) (hx : x < 8) (h1 : M (a + 1) j = nI x) (h2 : M (a + 2) j = nI p) (hp : p < (if x = 2 ∨ x = 3 then 16 else 10)) :
    f_X1_setBy a a1 a2 M (nI j) = some (nI 0, if x = 2 then mst M a2 p (nI 0) else if x = 3 then mst M a2 p (nI 1) else if x = 4 then mst M a1 p (nI 1) else if x = 5 then mst M a1 p (nI 2) else M) := by
  have hp16 : p < 16 := by split at hp <;> omega
  unfold f_X1_setBy b_X1_setBy_76
  simp (disch := omega) only [li_0, li_1, li_2, li_3, li_4, li_5, li_6, li_7, li_8, li_9, li_10, li_11, li_12, li_13, li_14, li_15, li_16, li_17, li_18, li_19, li_20, li_21, li_22, li_23, li_24, li_25, li_26, li_27, li_28, li_29, li_30, li_31, li_32, li_33, li_34, li_35, li_36, li_37, li_38, li_39, li_40, li_41, li_42, li_43, li_44, li_45, li_46, li_47, li_48, li_49, li_50, li_51, li_52, li_53, li_54, li_55, li_56, li_57, li_58, li_59, li_60, li_61, li_62, li_63, li_71, li_72, li_73, li_81, li_82, li_97, li_98, li_99, li_100, li_101, li_102, li_105, li_110, li_111, li_116, li_117, li_126, li_161, li_233, li_932, li_1165, li_10000, li_100000, n_lt_t, n_lt_f, n_eq_t, n_eq_f, nI_add, n_sub, n_mul, n_ix, n_ckd, bnd_e, obn_s, zrk_0, zrk_1, zrk_b, zb_0, zb_1, zb_b, if_true, if_false, Bool.toNat_true, Bool.toNat_false, b0, b1, Bool.false_eq_true, Bool.true_eq_false, h1, h2]
  by_cases g2 : x = 2
  · simp (disch := omega) only [li_0, li_1, li_2, li_3, li_4, li_5, li_6, li_7, li_8, li_9, li_10, li_11, li_12, li_13, li_14, li_15, li_16, li_17, li_18, li_19, li_20, li_21, li_22, li_23, li_24, li_25, li_26, li_27, li_28, li_29, li_30, li_31, li_32, li_33, li_34, li_35, li_36, li_37, li_38, li_39, li_40, li_41, li_42, li_43, li_44, li_45, li_46, li_47, li_48, li_49, li_50, li_51, li_52, li_53, li_54, li_55, li_56, li_57, li_58, li_59, li_60, li_61, li_62, li_63, li_71, li_72, li_73, li_81, li_82, li_97, li_98, li_99, li_100, li_101, li_102, li_105, li_110, li_111, li_116, li_117, li_126, li_161, li_233, li_932, li_1165, li_10000, li_100000, n_lt_t, n_lt_f, n_eq_t, n_eq_f, nI_add, n_sub, n_mul, n_ix, n_ckd, bnd_e, obn_s, zrk_0, zrk_1, zrk_b, zb_0, zb_1, zb_b, if_true, if_false, Bool.toNat_true, Bool.toNat_false, b0, b1, Bool.false_eq_true, Bool.true_eq_false, g2]
  · by_cases g3 : x = 3
    · simp (disch := omega) only [li_0, li_1, li_2, li_3, li_4, li_5, li_6, li_7, li_8, li_9, li_10, li_11, li_12, li_13, li_14, li_15, li_16, li_17, li_18, li_19, li_20, li_21, li_22, li_23, li_24, li_25, li_26, li_27, li_28, li_29, li_30, li_31, li_32, li_33, li_34, li_35, li_36, li_37, li_38, li_39, li_40, li_41, li_42, li_43, li_44, li_45, li_46, li_47, li_48, li_49, li_50, li_51, li_52, li_53, li_54, li_55, li_56, li_57, li_58, li_59, li_60, li_61, li_62, li_63, li_71, li_72, li_73, li_81, li_82, li_97, li_98, li_99, li_100, li_101, li_102, li_105, li_110, li_111, li_116, li_117, li_126, li_161, li_233, li_932, li_1165, li_10000, li_100000, n_lt_t, n_lt_f, n_eq_t, n_eq_f, nI_add, n_sub, n_mul, n_ix, n_ckd, bnd_e, obn_s, zrk_0, zrk_1, zrk_b, zb_0, zb_1, zb_b, if_true, if_false, Bool.toNat_true, Bool.toNat_false, b0, b1, Bool.false_eq_true, Bool.true_eq_false, g3, if_neg, if_pos]
    · have hp10 : p < 10 := by rw [if_neg (by omega)] at hp; exact hp
      by_cases g4 : x = 4
      · simp (disch := omega) only [li_0, li_1, li_2, li_3, li_4, li_5, li_6, li_7, li_8, li_9, li_10, li_11, li_12, li_13, li_14, li_15, li_16, li_17, li_18, li_19, li_20, li_21, li_22, li_23, li_24, li_25, li_26, li_27, li_28, li_29, li_30, li_31, li_32, li_33, li_34, li_35, li_36, li_37, li_38, li_39, li_40, li_41, li_42, li_43, li_44, li_45, li_46, li_47, li_48, li_49, li_50, li_51, li_52, li_53, li_54, li_55, li_56, li_57, li_58, li_59, li_60, li_61, li_62, li_63, li_71, li_72, li_73, li_81, li_82, li_97, li_98, li_99, li_100, li_101, li_102, li_105, li_110, li_111, li_116, li_117, li_126, li_161, li_233, li_932, li_1165, li_10000, li_100000, n_lt_t, n_lt_f, n_eq_t, n_eq_f, nI_add, n_sub, n_mul, n_ix, n_ckd, bnd_e, obn_s, zrk_0, zrk_1, zrk_b, zb_0, zb_1, zb_b, if_true, if_false, Bool.toNat_true, Bool.toNat_false, b0, b1, Bool.false_eq_true, Bool.true_eq_false, g4, if_neg, if_pos]
      · by_cases g5 : x = 5
        · simp (disch := omega) only [li_0, li_1, li_2, li_3, li_4, li_5, li_6, li_7, li_8, li_9, li_10, li_11, li_12, li_13, li_14, li_15, li_16, li_17, li_18, li_19, li_20, li_21, li_22, li_23, li_24, li_25, li_26, li_27, li_28, li_29, li_30, li_31, li_32, li_33, li_34, li_35, li_36, li_37, li_38, li_39, li_40, li_41, li_42, li_43, li_44, li_45, li_46, li_47, li_48, li_49, li_50, li_51, li_52, li_53, li_54, li_55, li_56, li_57, li_58, li_59, li_60, li_61, li_62, li_63, li_71, li_72, li_73, li_81, li_82, li_97, li_98, li_99, li_100, li_101, li_102, li_105, li_110, li_111, li_116, li_117, li_126, li_161, li_233, li_932, li_1165, li_10000, li_100000, n_lt_t, n_lt_f, n_eq_t, n_eq_f, nI_add, n_sub, n_mul, n_ix, n_ckd, bnd_e, obn_s, zrk_0, zrk_1, zrk_b, zb_0, zb_1, zb_b, if_true, if_false, Bool.toNat_true, Bool.toNat_false, b0, b1, Bool.false_eq_true, Bool.true_eq_false, g5, if_neg, if_pos]
        · simp (disch := omega) only [li_0, li_1, li_2, li_3, li_4, li_5, li_6, li_7, li_8, li_9, li_10, li_11, li_12, li_13, li_14, li_15, li_16, li_17, li_18, li_19, li_20, li_21, li_22, li_23, li_24, li_25, li_26, li_27, li_28, li_29, li_30, li_31, li_32, li_33, li_34, li_35, li_36, li_37, li_38, li_39, li_40, li_41, li_42, li_43, li_44, li_45, li_46, li_47, li_48, li_49, li_50, li_51, li_52, li_53, li_54, li_55, li_56, li_57, li_58, li_59, li_60, li_61, li_62, li_63, li_71, li_72, li_73, li_81, li_82, li_97, li_98, li_99, li_100, li_101, li_102, li_105, li_110, li_111, li_116, li_117, li_126, li_161, li_233, li_932, li_1165, li_10000, li_100000, n_lt_t, n_lt_f, n_eq_t, n_eq_f, nI_add, n_sub, n_mul, n_ix, n_ckd, bnd_e, obn_s, zrk_0, zrk_1, zrk_b, zb_0, zb_1, zb_b, if_true, if_false, Bool.toNat_true, Bool.toNat_false, b0, b1, Bool.false_eq_true, Bool.true_eq_false, if_neg]
theorem pl_16 {x p : Nat} (hn : n ≤ 10) (hk : k ≤ 16) (h : p < (if x = 2 ∨ x = 3 then k else n)) : p < (if x = 2 ∨ x = 3 then 16 else 10) := by
  split at h
  · rename_i g; rw [if_pos g]; omega
  · rename_i g; rw [if_neg g]; omega
theorem write1_ok (W : Wf S n k q) (h : lB M a S n k q) (hq : q < 24) (x p : Nat) : ∃ M', b_X1_write_13 a M (nI x) (nI p) (S 3) = some (nI 0, M') ∧ lB M' a (apS S q x p) n k (q + 1) ∧ ∀ b, (b < a ∨ a + 8 ≤ b) → M' b = M b := by
  obtain ⟨⟨h0, h1⟩, hL, hF, hC⟩ := h
  have hO : ∀ s, s < n → ∀ j, j < 9 → aO (apS S q x p) s j = aO S s j := fun s hs j hj => by
    have := W.1.2.1
    unfold apS
    rw [aO_u (by omega), aO_u (by omega), aO_u (by omega), aO_u (by omega), aO_u (by omega)]
  have hI : ∀ i, i < k → ∀ j, j < 4 → aI (apS S q x p) i j = aI S i j := fun s hs j hj => by
    have := W.1.2.2.2.1
    unfold apS
    rw [aI_u (by omega), aI_u (by omega), aI_u (by omega), aI_u (by omega), aI_u (by omega)]
  unfold b_X1_write_13
  simp (disch := omega) only [li_0, li_1, li_2, li_3, li_4, li_5, li_6, li_7, li_8, li_9, li_10, li_11, li_12, li_13, li_14, li_15, li_16, li_17, li_18, li_19, li_20, li_21, li_22, li_23, li_24, li_25, li_26, li_27, li_28, li_29, li_30, li_31, li_32, li_33, li_34, li_35, li_36, li_37, li_38, li_39, li_40, li_41, li_42, li_43, li_44, li_45, li_46, li_47, li_48, li_49, li_50, li_51, li_52, li_53, li_54, li_55, li_56, li_57, li_58, li_59, li_60, li_61, li_62, li_63, li_71, li_72, li_73, li_81, li_82, li_97, li_98, li_99, li_100, li_101, li_102, li_105, li_110, li_111, li_116, li_117, li_126, li_161, li_233, li_932, li_1165, li_10000, li_100000, n_lt_t, n_lt_f, n_eq_t, n_eq_f, nI_add, n_sub, n_mul, n_ix, n_ckd, bnd_e, obn_s, zrk_0, zrk_1, zrk_b, zb_0, zb_1, zb_b, if_true, if_false, Bool.toNat_true, Bool.toNat_false, b0, b1, Bool.false_eq_true, Bool.true_eq_false, mrow_n, mrow_at, mst_n, mst_at, upd_n, upd_at, mst_mrow, h1]
  refine ⟨_, rfl, ⟨⟨?_, ?_⟩, fun j hj => ?_, fun s hs => ?_, fun i hi => ?_⟩, fun b hb => ?_⟩
  · simp (disch := omega) only [mrow_n, mrow_at, mst_n, mst_at, upd_n, upd_at, mst_mrow]
    unfold apS
    simp (disch := omega) only [mrow_n, mrow_at, mst_n, mst_at, upd_n, upd_at, mst_mrow, h0]
  · simp (disch := omega) only [mrow_n, mrow_at, mst_n, mst_at, upd_n, upd_at, mst_mrow]
  · simp (disch := omega) only [mrow_n, mrow_at, mst_n, mst_at, upd_n, upd_at, mst_mrow]
    unfold aL apS
    by_cases g : j = q
    · subst g
      simp (disch := omega) only [mrow_n, mrow_at, mst_n, mst_at, upd_n, upd_at, mst_mrow, Nat.add_zero]
      refine ⟨trivial, trivial, trivial⟩
    · have h2 := hL j (by omega)
      unfold aL at h2
      simp (disch := omega) only [mrow_n, mrow_at, mst_n, mst_at, upd_n, upd_at, mst_mrow]
      exact h2
  · simp (disch := omega) only [mrow_n, mrow_at, mst_n, mst_at, upd_n, upd_at, mst_mrow]
    unfold bS
    rw [hO s hs 8 (by omega)]
    exact hF s hs
  · simp (disch := omega) only [mrow_n, mrow_at, mst_n, mst_at, upd_n, upd_at, mst_mrow]
    unfold wS
    rw [hI i hi 3 (by omega)]
    exact hC i hi
  · simp (disch := omega) only [mrow_n, mrow_at, mst_n, mst_at, upd_n, upd_at, mst_mrow]
theorem cpy_sh {f : Nat → Int32} {z j : Nat} (h : j < z) : va_cpy f f 1 0 z j = f (1 + j) := by
  simp [va_cpy, h]
theorem drop_ok (W : Wf S n k 24) (h : lB M a S n k 24) : ∃ M', f_X1_dropOldest a M = some (nI 0, M') ∧ lB M' a (fgS S 24) n k 23 ∧ ∀ b, (b < a ∨ a + 8 ≤ b) → M' b = M b := by
  obtain ⟨⟨h0, h1⟩, hL, hF, hC⟩ := h
  obtain ⟨⟨e0, hn, e1, hk, e5, hq24⟩, WI, WO, WL⟩ := W
  obtain ⟨⟨g1, g2⟩, g3, g4⟩ := WL 0 (by omega)
  obtain ⟨l1, l2, l3⟩ := hL 0 (by omega)
  have hp16 : pS S 0 < 16 := by split at g4 <;> omega
  have hset := setBy_ok (a := a) (M := M) (a1 := a + 4) (a2 := a + 5) (j := 0) (by omega) g2 (by rw [l1, g1]) (by rw [l2, g3]) (pl_16 hn hk g4)
  generalize hM0 : (if kS S 0 = 2 then mst M (a + 5) (pS S 0) (nI 0) else if kS S 0 = 3 then mst M (a + 5) (pS S 0) (nI 1) else if kS S 0 = 4 then mst M (a + 4) (pS S 0) (nI 1) else if kS S 0 = 5 then mst M (a + 4) (pS S 0) (nI 2) else M) = M0 at hset
  have k0 : ∀ b, b ≠ a + 4 → b ≠ a + 5 → M0 b = M b := by
    intro b b4 b5
    rw [← hM0]
    split
    · rw [mst_n b5]
    · split
      · rw [mst_n b5]
      · split
        · rw [mst_n b4]
        · split
          · rw [mst_n b4]
          · rfl
  have hO8 : ∀ s, s < n → (M0 (a + 4) s = nI 2 ↔ bS (olS S) 8 s = true) := by
    intro s hs
    have hf := hF s hs
    rw [← hM0]
    unfold olS
    by_cases q2 : kS S 0 = 2
    · simp only [q2, if_true]
      rw [mst_n (by omega), bS_u (by omega)]
      exact hf
    · by_cases q3 : kS S 0 = 3
      · simp only [q3, if_true]
        rw [if_neg (by omega), if_neg (by omega), mst_n (by omega), bS_u (by omega)]
        exact hf
      · have hpn : pS S 0 < n := by rw [if_neg (by omega)] at g4; exact g4
        by_cases q4 : kS S 0 = 4
        · simp only [q4, if_true]
          rw [if_neg (by omega), if_neg (by omega), if_neg (by omega), if_neg (by omega), mst_at]
          by_cases e : s = pS S 0
          · subst e
            rw [upd_at]
            unfold bS aO
            rw [upd_at]
            decide
          · rw [upd_n e, bS_u (by omega)]
            exact hf
        · by_cases q5 : kS S 0 = 5
          · simp only [q5, if_true]
            rw [if_neg (by omega), if_neg (by omega), if_neg (by omega), if_neg (by omega), if_neg (by omega), if_neg (by omega), mst_at]
            by_cases e : s = pS S 0
            · subst e
              rw [upd_at]
              unfold bS aO
              rw [upd_at]
              decide
            · rw [upd_n e, bS_u (by omega)]
              exact hf
          · rw [if_neg q2, if_neg q3, if_neg q4, if_neg q5, if_neg q2, if_neg q3, if_neg q4, if_neg q5]
            exact hf
  have hC3 : ∀ i, i < k → zb (M0 (a + 5) i) = nI (wS (olS S) i).toNat := by
    intro s hs
    have hf := hC s hs
    rw [← hM0]
    unfold olS
    by_cases q2 : kS S 0 = 2
    · simp only [q2, if_true]
      rw [mst_at]
      by_cases e : s = pS S 0
      · subst e
        rw [upd_at]
        unfold wS aI
        rw [upd_at]
        rfl
      · rw [upd_n e, wS_u (by omega)]
        exact hf
    · by_cases q3 : kS S 0 = 3
      · simp only [q3, if_true]
        rw [if_neg (by omega), if_neg (by omega), mst_at]
        by_cases e : s = pS S 0
        · subst e
          rw [upd_at]
          unfold wS aI
          rw [upd_at]
          rfl
        · rw [upd_n e, wS_u (by omega)]
          exact hf
      · have hpn : pS S 0 < n := by rw [if_neg (by omega)] at g4; exact g4
        by_cases q4 : kS S 0 = 4
        · simp only [q4, if_true]
          rw [if_neg (by omega), if_neg (by omega), if_neg (by omega), if_neg (by omega), mst_n (by omega), wS_u (by omega)]
          exact hf
        · by_cases q5 : kS S 0 = 5
          · simp only [q5, if_true]
            rw [if_neg (by omega), if_neg (by omega), if_neg (by omega), if_neg (by omega), if_neg (by omega), if_neg (by omega), mst_n (by omega), wS_u (by omega)]
            exact hf
          · rw [if_neg q2, if_neg q3, if_neg q4, if_neg q5, if_neg q2, if_neg q3, if_neg q4, if_neg q5]
            exact hf
  have oL : ∀ j t, j < 24 → t < 3 → aL (olS S) j t = aL S j t := by
    intro j t hj ht
    unfold olS
    split
    · rw [aL_u (by omega)]
    · split
      · rw [aL_u (by omega)]
      · split
        · have hpn : pS S 0 < n := by rw [if_neg (by omega)] at g4; exact g4
          rw [aL_u (by omega)]
        · split
          · have hpn : pS S 0 < n := by rw [if_neg (by omega)] at g4; exact g4
            rw [aL_u (by omega)]
          · rfl
  have o4 : olS S 4 = S 4 := by
    unfold olS
    split
    · rw [upd_n (by omega)]
    · split
      · rw [upd_n (by omega)]
      · split
        · rw [upd_n (by omega)]
        · split
          · rw [upd_n (by omega)]
          · rfl
  unfold f_X1_dropOldest
  simp (disch := omega) only [li_0, li_1, li_2, li_3, li_4, li_5, li_6, li_7, li_8, li_9, li_10, li_11, li_12, li_13, li_14, li_15, li_16, li_17, li_18, li_19, li_20, li_21, li_22, li_23, li_24, li_25, li_26, li_27, li_28, li_29, li_30, li_31, li_32, li_33, li_34, li_35, li_36, li_37, li_38, li_39, li_40, li_41, li_42, li_43, li_44, li_45, li_46, li_47, li_48, li_49, li_50, li_51, li_52, li_53, li_54, li_55, li_56, li_57, li_58, li_59, li_60, li_61, li_62, li_63, li_71, li_72, li_73, li_81, li_82, li_97, li_98, li_99, li_100, li_101, li_102, li_105, li_110, li_111, li_116, li_117, li_126, li_161, li_233, li_932, li_1165, li_10000, li_100000, n_lt_t, n_lt_f, n_eq_t, n_eq_f, nI_add, n_sub, n_mul, n_ix, n_ckd, bnd_e, obn_s, zrk_0, zrk_1, zrk_b, zb_0, zb_1, zb_b, if_true, if_false, Bool.toNat_true, Bool.toNat_false, b0, b1, Bool.false_eq_true, Bool.true_eq_false, mrow_n, mrow_at, mst_n, mst_at, upd_n, upd_at, mst_mrow, hset, cpk_n]
  refine ⟨_, rfl, ⟨⟨?_, ?_⟩, fun j hj => ?_, fun s hs => ?_, fun i hi => ?_⟩, fun b hb => ?_⟩
  · simp (disch := omega) only [mrow_n, mrow_at, mst_n, mst_at, upd_n, upd_at, mst_mrow, k0, h0]
    unfold fgS shS
    rw [if_neg (by omega), upd_n (by omega), o4]
  · simp (disch := omega) only [mrow_n, mrow_at, mst_n, mst_at, upd_n, upd_at, mst_mrow]
  · obtain ⟨m1, m2, m3⟩ := hL (j + 1) (by omega)
    simp (disch := omega) only [mrow_n, mrow_at, mst_n, mst_at, upd_n, upd_at, mst_mrow, cpy_sh, k0]
    unfold fgS
    rw [sh_L (by omega) (by omega), sh_L (by omega) (by omega), sh_L (by omega) (by omega), aL_u (by omega), aL_u (by omega), aL_u (by omega), oL _ _ (by omega) (by omega), oL _ _ (by omega) (by omega), oL _ _ (by omega) (by omega), Nat.add_comm 1 j]
    exact ⟨m1, m2, m3⟩
  · simp (disch := omega) only [mrow_n, mrow_at, mst_n, mst_at, upd_n, upd_at, mst_mrow]
    have e : bS (fgS S 24) 8 s = bS (olS S) 8 s := by unfold bS fgS; rw [sh_O (by omega), aO_u (by omega)]
    rw [e]
    exact hO8 s hs
  · simp (disch := omega) only [mrow_n, mrow_at, mst_n, mst_at, upd_n, upd_at, mst_mrow]
    have e : wS (fgS S 24) i = wS (olS S) i := by unfold wS fgS; rw [sh_I (by omega), aI_u (by omega)]
    rw [e]
    exact hC3 i hi
  · simp (disch := omega) only [mrow_n, mrow_at, mst_n, mst_at, upd_n, upd_at, mst_mrow, k0]
/-- the state's own part ahead of the log's -/
theorem write_ok (W : Wf S n k q) (h : lB M a S n k q) (x p : Nat) : ∃ M', f_X1_write a M (nI x) (nI p) (S 3) = some (nI 0, M') ∧ lB M' a (if q = 24 then apS (fgS S 24) 23 x p else apS S q x p) n k (mkq q) ∧ ∀ b, (b < a ∨ a + 8 ≤ b) → M' b = M b := by
  have hq24 := W.1.2.2.2.2.2
  have h1 := h.1.2
  unfold f_X1_write
  by_cases g : q = 24
  · subst g
    obtain ⟨M1, m1, m2, m3⟩ := drop_ok W h
    have e3 : fgS S 24 3 = S 3 := by
      unfold fgS shS
      rw [if_neg (by omega), upd_n (by omega)]
      unfold olS
      split
      · rw [upd_n (by omega)]
      · split
        · rw [upd_n (by omega)]
        · split
          · rw [upd_n (by omega)]
          · split
            · rw [upd_n (by omega)]
            · rfl
    obtain ⟨M2, r1, r2, r3⟩ := write1_ok (W.fg (by omega)) m2 (by omega) x p
    rw [e3] at r1
    refine ⟨M2, ?_, ?_, fun b hb => by rw [r3 b hb, m3 b hb]⟩
    · simp (disch := omega) only [li_0, li_1, li_2, li_3, li_4, li_5, li_6, li_7, li_8, li_9, li_10, li_11, li_12, li_13, li_14, li_15, li_16, li_17, li_18, li_19, li_20, li_21, li_22, li_23, li_24, li_25, li_26, li_27, li_28, li_29, li_30, li_31, li_32, li_33, li_34, li_35, li_36, li_37, li_38, li_39, li_40, li_41, li_42, li_43, li_44, li_45, li_46, li_47, li_48, li_49, li_50, li_51, li_52, li_53, li_54, li_55, li_56, li_57, li_58, li_59, li_60, li_61, li_62, li_63, li_71, li_72, li_73, li_81, li_82, li_97, li_98, li_99, li_100, li_101, li_102, li_105, li_110, li_111, li_116, li_117, li_126, li_161, li_233, li_932, li_1165, li_10000, li_100000, n_lt_t, n_lt_f, n_eq_t, n_eq_f, nI_add, n_sub, n_mul, n_ix, n_ckd, bnd_e, obn_s, zrk_0, zrk_1, zrk_b, zb_0, zb_1, zb_b, if_true, if_false, Bool.toNat_true, Bool.toNat_false, b0, b1, Bool.false_eq_true, Bool.true_eq_false, h1, m1, r1]
    · rw [if_pos rfl]
      exact r2
  · obtain ⟨M2, r1, r2, r3⟩ := write1_ok W h (by omega) x p
    refine ⟨M2, ?_, ?_, r3⟩
    · simp (disch := omega) only [li_0, li_1, li_2, li_3, li_4, li_5, li_6, li_7, li_8, li_9, li_10, li_11, li_12, li_13, li_14, li_15, li_16, li_17, li_18, li_19, li_20, li_21, li_22, li_23, li_24, li_25, li_26, li_27, li_28, li_29, li_30, li_31, li_32, li_33, li_34, li_35, li_36, li_37, li_38, li_39, li_40, li_41, li_42, li_43, li_44, li_45, li_46, li_47, li_48, li_49, li_50, li_51, li_52, li_53, li_54, li_55, li_56, li_57, li_58, li_59, li_60, li_61, li_62, li_63, li_71, li_72, li_73, li_81, li_82, li_97, li_98, li_99, li_100, li_101, li_102, li_105, li_110, li_111, li_116, li_117, li_126, li_161, li_233, li_932, li_1165, li_10000, li_100000, n_lt_t, n_lt_f, n_eq_t, n_eq_f, nI_add, n_sub, n_mul, n_ix, n_ckd, bnd_e, obn_s, zrk_0, zrk_1, zrk_b, zb_0, zb_1, zb_b, if_true, if_false, Bool.toNat_true, Bool.toNat_false, b0, b1, Bool.false_eq_true, Bool.true_eq_false, h1, r1]
    · rw [if_neg g]
      unfold mkq
      rw [if_neg g]
      exact r2
def AgL (M' : Mm) (a' : Nat) (M : Mm) (a : Nat) : Prop :=
  M' a' 0 = M a 0 ∧ M' a' 1 = M a 1 ∧ (∀ j, j < 24 → M' (a' + 1) j = M (a + 1) j ∧ M' (a' + 2) j = M (a + 2) j ∧ M' (a' + 3) j = M (a + 3) j) ∧ (∀ s, s < 10 → M' (a' + 4) s = M (a + 4) s) ∧ ∀ i, i < 16 → M' (a' + 5) i = M (a + 5) i
theorem AgL.lB {M' : Mm} {a' : Nat} (hn : n ≤ 10) (hk : k ≤ 16) (hq : q ≤ 24) (g : AgL M' a' M a) (h : lB M a S n k q) : lB M' a' S n k q := by
  obtain ⟨g0, g1, g2, g3, g4⟩ := g
  obtain ⟨⟨h0, h1⟩, h2, h3, h4⟩ := h
  refine ⟨⟨by rw [g0, h0], by rw [g1, h1]⟩, fun j hj => ?_, fun s hs => ?_, fun i hi => ?_⟩
  · obtain ⟨a1, a2, a3⟩ := g2 j (by omega)
    rw [a1, a2, a3]
    exact h2 j hj
  · rw [g3 s (by omega)]
    exact h3 s hs
  · rw [g4 i (by omega)]
    exact h4 i hi
theorem copyL_ok {b : Nat} (hab : a + 8 ≤ b ∨ b + 8 ≤ a) : ∃ M', f_X1_copyFrom a b M = some (nI 0, M') ∧ AgL M' a M b ∧ ∀ x, (x < a ∨ a + 8 ≤ x) → M' x = M x := by
  unfold f_X1_copyFrom
  simp (disch := omega) only [li_0, li_1, li_2, li_3, li_4, li_5, li_6, li_7, li_8, li_9, li_10, li_11, li_12, li_13, li_14, li_15, li_16, li_17, li_18, li_19, li_20, li_21, li_22, li_23, li_24, li_25, li_26, li_27, li_28, li_29, li_30, li_31, li_32, li_33, li_34, li_35, li_36, li_37, li_38, li_39, li_40, li_41, li_42, li_43, li_44, li_45, li_46, li_47, li_48, li_49, li_50, li_51, li_52, li_53, li_54, li_55, li_56, li_57, li_58, li_59, li_60, li_61, li_62, li_63, li_71, li_72, li_73, li_81, li_82, li_97, li_98, li_99, li_100, li_101, li_102, li_105, li_110, li_111, li_116, li_117, li_126, li_161, li_233, li_932, li_1165, li_10000, li_100000, n_lt_t, n_lt_f, n_eq_t, n_eq_f, nI_add, n_sub, n_mul, n_ix, n_ckd, bnd_e, obn_s, zrk_0, zrk_1, zrk_b, zb_0, zb_1, zb_b, if_true, if_false, Bool.toNat_true, Bool.toNat_false, b0, b1, Bool.false_eq_true, Bool.true_eq_false, cpk_n]
  refine ⟨_, rfl, ⟨?_, ?_, fun s hs => ⟨?_, ?_, ?_⟩, fun s hs => ?_, fun s hs => ?_⟩, fun x hx => ?_⟩
  all_goals simp (disch := omega) only [mrow_n, mrow_at, mst_n, mst_at, upd_n, upd_at, mst_mrow, cpy_in]
/-- what the log tells -/
theorem tell_ok (W : Wf S n k q) (h : lB M a S n k q) : ∃ M', f_X1_tell a M = some (nI 0, M') ∧ (∀ s, s < n → (M' (a + 6) s = nI 2 ↔ oaS S s q = true)) ∧ (∀ i, i < k → zb (M' (a + 7) i) = nI (caS S i q).toNat) ∧ ∀ b, b ≠ a + 6 → b ≠ a + 7 → M' b = M b := by
  obtain ⟨⟨h0, h1⟩, hL, hF, hC⟩ := h
  obtain ⟨⟨e0, hn, e1, hk, e5, hq24⟩, WI, WO, WL⟩ := W
  have step : ∀ j, j < q → ∀ M0 : Mm, (∀ b, b ≠ a + 6 → b ≠ a + 7 → M0 b = M b) → (∀ s, s < n → (M0 (a + 6) s = nI 2 ↔ oaS S s j = true)) → (∀ i, i < k → zb (M0 (a + 7) i) = nI (caS S i j).toNat) →
      ∃ M1, f_X1_setBy a (a + 6) (a + 7) M0 (nI j) = some (nI 0, M1) ∧ (∀ b, b ≠ a + 6 → b ≠ a + 7 → M1 b = M b) ∧ (∀ s, s < n → (M1 (a + 6) s = nI 2 ↔ oaS S s (j + 1) = true)) ∧ (∀ i, i < k → zb (M1 (a + 7) i) = nI (caS S i (j + 1)).toNat) := by
    intro j hj M0 p1 p2 p3
    obtain ⟨⟨g1, g2⟩, g3, g4⟩ := WL j hj
    obtain ⟨l1, l2, l3⟩ := hL j hj
    refine ⟨_, setBy_ok (by omega) g2 (by rw [p1 _ (by omega) (by omega), l1, g1]) (by rw [p1 _ (by omega) (by omega), l2, g3]) (pl_16 hn hk g4), fun b b6 b7 => ?_, fun s hs => ?_, fun i hi => ?_⟩
    · have e := p1 b b6 b7
      split
      · rw [mst_n b7, e]
      · split
        · rw [mst_n b7, e]
        · split
          · rw [mst_n b6, e]
          · split
            · rw [mst_n b6, e]
            · exact e
    · have e := p2 s hs
      simp only [oaS]
      by_cases q2 : kS S j = 2
      · simp only [q2, if_true]
        rw [mst_n (by omega)]
        simpa using e
      · by_cases q3 : kS S j = 3
        · rw [if_neg q2, if_pos q3, mst_n (by omega)]
          simpa [q3] using e
        · by_cases q4 : kS S j = 4
          · rw [if_neg q2, if_neg q3, if_pos q4, mst_at]
            by_cases z : pS S j = s
            · subst z
              rw [upd_at]
              simp [q4]
              try decide
            · rw [upd_n (Ne.symm z)]
              simpa [z, q4] using e
          · by_cases q5 : kS S j = 5
            · rw [if_neg q2, if_neg q3, if_neg q4, if_pos q5, mst_at]
              by_cases z : pS S j = s
              · subst z
                rw [upd_at]
                simp [q5]
              · rw [upd_n (Ne.symm z)]
                simpa [z, q5] using e
            · rw [if_neg q2, if_neg q3, if_neg q4, if_neg q5]
              simpa [q4, q5] using e
    · have e := p3 i hi
      simp only [caS]
      by_cases q2 : kS S j = 2
      · simp only [q2, if_true]
        rw [mst_at]
        by_cases z : pS S j = i
        · subst z
          rw [upd_at]
          simp
          rfl
        · rw [upd_n (Ne.symm z)]
          simpa [z] using e
      · by_cases q3 : kS S j = 3
        · rw [if_neg q2, if_pos q3, mst_at]
          by_cases z : pS S j = i
          · subst z
            rw [upd_at]
            simp [q3]
            try rfl
          · rw [upd_n (Ne.symm z)]
            simpa [z, q3] using e
        · rw [if_neg q2, if_neg q3]
          by_cases q4 : kS S j = 4
          · rw [if_pos q4, mst_n (by omega)]
            simpa [q2, q3] using e
          · rw [if_neg q4]
            by_cases q5 : kS S j = 5
            · rw [if_pos q5, mst_n (by omega)]
              simpa [q2, q3] using e
            · rw [if_neg q5]
              simpa [q2, q3] using e
  have run : ∀ d j, j + d = q → ∀ k' M0, d < k' → (∀ b, b ≠ a + 6 → b ≠ a + 7 → M0 b = M b) → (∀ s, s < n → (M0 (a + 6) s = nI 2 ↔ oaS S s j = true)) → (∀ i, i < k → zb (M0 (a + 7) i) = nI (caS S i j).toNat) →
      ∃ M', l_X1_tell_32 a k' M0 (nI j) = some (nI 0, M') ∧ (∀ s, s < n → (M' (a + 6) s = nI 2 ↔ oaS S s q = true)) ∧ (∀ i, i < k → zb (M' (a + 7) i) = nI (caS S i q).toNat) ∧ ∀ b, b ≠ a + 6 → b ≠ a + 7 → M' b = M b := by
    intro d
    induction d with
    | zero =>
      intro j hj k' M0 hk' p1 p2 p3
      have hj : j = q := by omega
      subst hj
      obtain ⟨k'', rfl⟩ : ∃ x, k' = x + 1 := ⟨k' - 1, by omega⟩
      refine ⟨M0, ?_, p2, p3, p1⟩
      rw [l_X1_tell_32]
      simp (disch := omega) only [li_0, li_1, li_2, li_3, li_4, li_5, li_6, li_7, li_8, li_9, li_10, li_11, li_12, li_13, li_14, li_15, li_16, li_17, li_18, li_19, li_20, li_21, li_22, li_23, li_24, li_25, li_26, li_27, li_28, li_29, li_30, li_31, li_32, li_33, li_34, li_35, li_36, li_37, li_38, li_39, li_40, li_41, li_42, li_43, li_44, li_45, li_46, li_47, li_48, li_49, li_50, li_51, li_52, li_53, li_54, li_55, li_56, li_57, li_58, li_59, li_60, li_61, li_62, li_63, li_71, li_72, li_73, li_81, li_82, li_97, li_98, li_99, li_100, li_101, li_102, li_105, li_110, li_111, li_116, li_117, li_126, li_161, li_233, li_932, li_1165, li_10000, li_100000, n_lt_t, n_lt_f, n_eq_t, n_eq_f, nI_add, n_sub, n_mul, n_ix, n_ckd, bnd_e, obn_s, zrk_0, zrk_1, zrk_b, zb_0, zb_1, zb_b, if_true, if_false, Bool.toNat_true, Bool.toNat_false, b0, b1, Bool.false_eq_true, Bool.true_eq_false, p1 a (by omega) (by omega), h1]
    | succ d ih =>
      intro j hj k' M0 hk' p1 p2 p3
      obtain ⟨k'', rfl⟩ : ∃ x, k' = x + 1 := ⟨k' - 1, by omega⟩
      obtain ⟨M1, r0, r1, r2, r3⟩ := step j (by omega) M0 p1 p2 p3
      obtain ⟨M', z1, z2⟩ := ih (j + 1) (by omega) k'' M1 (by omega) r1 r2 r3
      refine ⟨M', ?_, z2⟩
      rw [l_X1_tell_32]
      simp (disch := omega) only [li_0, li_1, li_2, li_3, li_4, li_5, li_6, li_7, li_8, li_9, li_10, li_11, li_12, li_13, li_14, li_15, li_16, li_17, li_18, li_19, li_20, li_21, li_22, li_23, li_24, li_25, li_26, li_27, li_28, li_29, li_30, li_31, li_32, li_33, li_34, li_35, li_36, li_37, li_38, li_39, li_40, li_41, li_42, li_43, li_44, li_45, li_46, li_47, li_48, li_49, li_50, li_51, li_52, li_53, li_54, li_55, li_56, li_57, li_58, li_59, li_60, li_61, li_62, li_63, li_71, li_72, li_73, li_81, li_82, li_97, li_98, li_99, li_100, li_101, li_102, li_105, li_110, li_111, li_116, li_117, li_126, li_161, li_233, li_932, li_1165, li_10000, li_100000, n_lt_t, n_lt_f, n_eq_t, n_eq_f, nI_add, n_sub, n_mul, n_ix, n_ckd, bnd_e, obn_s, zrk_0, zrk_1, zrk_b, zb_0, zb_1, zb_b, if_true, if_false, Bool.toNat_true, Bool.toNat_false, b0, b1, Bool.false_eq_true, Bool.true_eq_false, p1 a (by omega) (by omega), h1, r0, z1]
  unfold f_X1_tell
  simp (disch := omega) only [li_0, li_1, li_2, li_3, li_4, li_5, li_6, li_7, li_8, li_9, li_10, li_11, li_12, li_13, li_14, li_15, li_16, li_17, li_18, li_19, li_20, li_21, li_22, li_23, li_24, li_25, li_26, li_27, li_28, li_29, li_30, li_31, li_32, li_33, li_34, li_35, li_36, li_37, li_38, li_39, li_40, li_41, li_42, li_43, li_44, li_45, li_46, li_47, li_48, li_49, li_50, li_51, li_52, li_53, li_54, li_55, li_56, li_57, li_58, li_59, li_60, li_61, li_62, li_63, li_71, li_72, li_73, li_81, li_82, li_97, li_98, li_99, li_100, li_101, li_102, li_105, li_110, li_111, li_116, li_117, li_126, li_161, li_233, li_932, li_1165, li_10000, li_100000, n_lt_t, n_lt_f, n_eq_t, n_eq_f, nI_add, n_sub, n_mul, n_ix, n_ckd, bnd_e, obn_s, zrk_0, zrk_1, zrk_b, zb_0, zb_1, zb_b, if_true, if_false, Bool.toNat_true, Bool.toNat_false, b0, b1, Bool.false_eq_true, Bool.true_eq_false, cpk_n]
  refine run q 0 (by omega) FU _ (by show _ < 4000; omega) (fun b b6 b7 => by rw [mrow_n b7, mrow_n b6]) (fun s hs => ?_) (fun i hi => ?_)
  · simp (disch := omega) only [mrow_n, mrow_at, mst_n, mst_at, upd_n, upd_at, mst_mrow, cpy_in]
    exact hF s hs
  · simp (disch := omega) only [mrow_n, mrow_at, mst_n, mst_at, upd_n, upd_at, mst_mrow, cpy_in]
    exact hC i hi
end CL

