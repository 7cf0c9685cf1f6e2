/-! plans -/
section E1
variable {M : Mm} {X m n k q w a : Nat} {S : Sm}
def plI (S : Sm) (p : Nat) : Nat → List (Nat × Nat)
  | 0 => []
  | i + 1 => plI S p i ++ if (cS S i && (uS S i == p || vS S i == p)) = true then [(2, i)] else []
def plA (S : Sm) (p : Nat) : List (Nat × Nat) := if bS S 2 p = true then [] else [(0, p)]
def plB2 (S : Sm) (p : Nat) : List (Nat × Nat) := plA S p ++ if fS S p = 2 then [(4, p)] else []
def plL (S : Sm) (k p : Nat) : List (Nat × Nat) := (plB2 S p ++ plI S p k) ++ if bS S 3 p = true then [] else [(6, p)]
theorem plI_len (S : Sm) (p : Nat) : ∀ i, (plI S p i).length ≤ i
  | 0 => Nat.le_refl _
  | i + 1 => by
    have := plI_len S p i
    simp only [plI, List.length_append]
    split <;> simp <;> omega
theorem plB_len (S : Sm) (p : Nat) : (plA S p).length ≤ 1 ∧ (plB2 S p).length ≤ 2 := by
  unfold plB2 plA
  constructor <;> (repeat' split) <;> simp
def PL (M : Mm) (a : Nat) (l : List (Nat × Nat)) : Prop := M a 0 = nI l.length ∧ ∀ j e, l[j]? = some e → M (a + 1) j = nI e.1 ∧ M (a + 2) j = nI e.2
theorem app1 {l : List (Nat × Nat)} {e e' : Nat × Nat} {j : Nat} (h : (l ++ [e'])[j]? = some e) : (j ≠ l.length ∧ l[j]? = some e) ∨ (j = l.length ∧ e = e') := by
  rcases Nat.lt_trichotomy j l.length with c | c | c
  · rw [List.getElem?_append_left c] at h
    exact Or.inl ⟨by omega, h⟩
  · subst c
    rw [List.getElem?_append_right (Nat.le_refl _), Nat.sub_self] at h
    simp at h
    exact Or.inr ⟨rfl, h.symm⟩
  · rw [List.getElem?_eq_none (by simp; omega)] at h
    cases h
theorem add_ok {l : List (Nat × Nat)} (h : PL M a l) (hl : l.length < 19) (x y : Nat) : ∃ M', f_X3_add a M (nI x) (nI y) = some (nI 0, M') ∧ PL M' a (l ++ [(x, y)]) ∧ ∀ b, (b < a ∨ a + 3 ≤ b) → M' b = M b := by
  obtain ⟨h0, h1⟩ := h
  refine ⟨mst (mst (mst M (a + 1) l.length (nI x)) (a + 2) l.length (nI y)) a 0 (nI (l.length + 1)), ?_, ⟨?_, fun j e he => ?_⟩, fun b hb => by rw [mst_n (by omega), mst_n (by omega), mst_n (by omega)]⟩
  · unfold f_X3_add
    simp (disch := omega) only [li_0, li_1, li_2, li_3, li_4, li_5, li_6, li_7, li_8, li_9, li_10, li_11, li_12, li_13, li_14, li_15, li_16, li_17, li_18, li_19, li_20, li_21, li_22, li_23, li_24, li_25, li_26, li_27, li_28, li_29, li_30, li_31, li_32, li_33, li_34, li_35, li_36, li_37, li_38, li_39, li_40, li_41, li_42, li_43, li_44, li_45, li_46, li_47, li_48, li_49, li_50, li_51, li_52, li_53, li_54, li_55, li_56, li_57, li_58, li_59, li_60, li_61, li_62, li_63, li_71, li_72, li_73, li_81, li_82, li_97, li_98, li_99, li_100, li_101, li_102, li_105, li_110, li_111, li_116, li_117, li_126, li_161, li_233, li_932, li_1165, li_10000, li_100000, n_lt_t, n_lt_f, n_eq_t, n_eq_f, nI_add, n_sub, n_mul, n_ix, n_ckd, bnd_e, obn_s, zrk_0, zrk_1, zrk_b, zb_0, zb_1, zb_b, if_true, if_false, Bool.toNat_true, Bool.toNat_false, b0, b1, Bool.false_eq_true, Bool.true_eq_false, mrow_n, mrow_at, mst_n, mst_at, upd_n, upd_at, mst_mrow, h0]
  · rw [mst_at, upd_at, List.length_append]
    rfl
  · simp (disch := omega) only [mrow_n, mrow_at, mst_n, mst_at, upd_n, upd_at, mst_mrow]
    rcases app1 he with ⟨c1, c2⟩ | ⟨c1, c2⟩
    · rw [upd_n c1, upd_n c1]
      exact h1 j e c2
    · subst c1
      rw [upd_at, upd_at, c2]
      exact ⟨rfl, rfl⟩
theorem drawI_ok (h : RW M w S n k q) (haw : w + 32 ≤ a) {p : Nat} (hp : p < n) : ∀ d i, i + d = k → ∀ k' (M0 : Mm), d < k' → (∀ b, (b < a ∨ a + 3 ≤ b) → M0 b = M b) → PL M0 a (plB2 S p ++ plI S p i) →
    ∃ M', l_X3_drawUp_44 a w (nI p) k' M0 (nI i) = some (nI 0, M') ∧ PL M' a (plL S k p) ∧ ∀ b, (b < a ∨ a + 3 ≤ b) → M' b = M b := by
  have hn := h.nlow
  have hk := h.klow
  have lb := (plB_len S p).2
  intro d
  induction d with
  | zero =>
    intro i hi k' M0 hk' e0 hP
    have hi : i = k := by omega
    subst hi
    obtain ⟨k'', rfl⟩ : ∃ x, k' = x + 1 := ⟨k' - 1, by omega⟩
    have h0 := h.kept (M' := M0) fun b b1 b2 => e0 b (by omega)
    have c3 := (h0.se hp).2.2.1
    rw [l_X3_drawUp_44]
    unfold plL
    cases e : bS S 3 p
    · obtain ⟨M1, r1, r2, r3⟩ := add_ok hP (by have := plI_len S p i; rw [List.length_append]; omega) 6 p
      refine ⟨M1, ?_, r2, fun b hb => by rw [r3 b hb, e0 b hb]⟩
      simp (disch := omega) only [li_0, li_1, li_2, li_3, li_4, li_5, li_6, li_7, li_8, li_9, li_10, li_11, li_12, li_13, li_14, li_15, li_16, li_17, li_18, li_19, li_20, li_21, li_22, li_23, li_24, li_25, li_26, li_27, li_28, li_29, li_30, li_31, li_32, li_33, li_34, li_35, li_36, li_37, li_38, li_39, li_40, li_41, li_42, li_43, li_44, li_45, li_46, li_47, li_48, li_49, li_50, li_51, li_52, li_53, li_54, li_55, li_56, li_57, li_58, li_59, li_60, li_61, li_62, li_63, li_71, li_72, li_73, li_81, li_82, li_97, li_98, li_99, li_100, li_101, li_102, li_105, li_110, li_111, li_116, li_117, li_126, li_161, li_233, li_932, li_1165, li_10000, li_100000, n_lt_t, n_lt_f, n_eq_t, n_eq_f, nI_add, n_sub, n_mul, n_ix, n_ckd, bnd_e, obn_s, zrk_0, zrk_1, zrk_b, zb_0, zb_1, zb_b, if_true, if_false, Bool.toNat_true, Bool.toNat_false, b0, b1, Bool.false_eq_true, Bool.true_eq_false, h0.k0, c3, e, r1, b_X3_drawUp_98]
    · refine ⟨M0, ?_, ?_, e0⟩
      · simp (disch := omega) only [li_0, li_1, li_2, li_3, li_4, li_5, li_6, li_7, li_8, li_9, li_10, li_11, li_12, li_13, li_14, li_15, li_16, li_17, li_18, li_19, li_20, li_21, li_22, li_23, li_24, li_25, li_26, li_27, li_28, li_29, li_30, li_31, li_32, li_33, li_34, li_35, li_36, li_37, li_38, li_39, li_40, li_41, li_42, li_43, li_44, li_45, li_46, li_47, li_48, li_49, li_50, li_51, li_52, li_53, li_54, li_55, li_56, li_57, li_58, li_59, li_60, li_61, li_62, li_63, li_71, li_72, li_73, li_81, li_82, li_97, li_98, li_99, li_100, li_101, li_102, li_105, li_110, li_111, li_116, li_117, li_126, li_161, li_233, li_932, li_1165, li_10000, li_100000, n_lt_t, n_lt_f, n_eq_t, n_eq_f, nI_add, n_sub, n_mul, n_ix, n_ckd, bnd_e, obn_s, zrk_0, zrk_1, zrk_b, zb_0, zb_1, zb_b, if_true, if_false, Bool.toNat_true, Bool.toNat_false, b0, b1, Bool.false_eq_true, Bool.true_eq_false, h0.k0, c3, e, b_X3_drawUp_98]
      · simp only [if_true, List.append_nil]
        exact hP
  | succ d ih =>
    intro i hi k' M0 hk' e0 hP
    obtain ⟨k'', rfl⟩ : ∃ x, k' = x + 1 := ⟨k' - 1, by omega⟩
    have h0 := h.kept (M' := M0) fun b b1 b2 => e0 b (by omega)
    have c3 := closedAt1_ok h0.2.1 (show i < k by omega) (show p < 10 by omega)
    have li := plI_len S p i
    rw [l_X3_drawUp_44]
    cases e : (cS S i && (uS S i == p || vS S i == p))
    · obtain ⟨M', r1, r2⟩ := ih (i + 1) (by omega) k'' M0 (by omega) e0 (by simp only [plI, e, Bool.false_eq_true, if_false, List.append_nil]; exact hP)
      refine ⟨M', ?_, r2⟩
      simp (disch := omega) only [li_0, li_1, li_2, li_3, li_4, li_5, li_6, li_7, li_8, li_9, li_10, li_11, li_12, li_13, li_14, li_15, li_16, li_17, li_18, li_19, li_20, li_21, li_22, li_23, li_24, li_25, li_26, li_27, li_28, li_29, li_30, li_31, li_32, li_33, li_34, li_35, li_36, li_37, li_38, li_39, li_40, li_41, li_42, li_43, li_44, li_45, li_46, li_47, li_48, li_49, li_50, li_51, li_52, li_53, li_54, li_55, li_56, li_57, li_58, li_59, li_60, li_61, li_62, li_63, li_71, li_72, li_73, li_81, li_82, li_97, li_98, li_99, li_100, li_101, li_102, li_105, li_110, li_111, li_116, li_117, li_126, li_161, li_233, li_932, li_1165, li_10000, li_100000, n_lt_t, n_lt_f, n_eq_t, n_eq_f, nI_add, n_sub, n_mul, n_ix, n_ckd, bnd_e, obn_s, zrk_0, zrk_1, zrk_b, zb_0, zb_1, zb_b, if_true, if_false, Bool.toNat_true, Bool.toNat_false, b0, b1, Bool.false_eq_true, Bool.true_eq_false, h0.k0, c3, e, b_X3_drawUp_73, r1]
    · obtain ⟨M1, r1, r2, r3⟩ := add_ok hP (by rw [List.length_append]; omega) 2 i
      obtain ⟨M', s1, s2⟩ := ih (i + 1) (by omega) k'' M1 (by omega) (fun b hb => by rw [r3 b hb, e0 b hb]) (by simp only [plI, e, if_true]; rw [← List.append_assoc]; exact r2)
      refine ⟨M', ?_, s2⟩
      simp (disch := omega) only [li_0, li_1, li_2, li_3, li_4, li_5, li_6, li_7, li_8, li_9, li_10, li_11, li_12, li_13, li_14, li_15, li_16, li_17, li_18, li_19, li_20, li_21, li_22, li_23, li_24, li_25, li_26, li_27, li_28, li_29, li_30, li_31, li_32, li_33, li_34, li_35, li_36, li_37, li_38, li_39, li_40, li_41, li_42, li_43, li_44, li_45, li_46, li_47, li_48, li_49, li_50, li_51, li_52, li_53, li_54, li_55, li_56, li_57, li_58, li_59, li_60, li_61, li_62, li_63, li_71, li_72, li_73, li_81, li_82, li_97, li_98, li_99, li_100, li_101, li_102, li_105, li_110, li_111, li_116, li_117, li_126, li_161, li_233, li_932, li_1165, li_10000, li_100000, n_lt_t, n_lt_f, n_eq_t, n_eq_f, nI_add, n_sub, n_mul, n_ix, n_ckd, bnd_e, obn_s, zrk_0, zrk_1, zrk_b, zb_0, zb_1, zb_b, if_true, if_false, Bool.toNat_true, Bool.toNat_false, b0, b1, Bool.false_eq_true, Bool.true_eq_false, h0.k0, c3, e, b_X3_drawUp_73, r1, s1]
theorem drawUp_ok (h : RW M w S n k q) (haw : w + 32 ≤ a) {p : Nat} (hp : p < n) : ∃ M', f_X3_drawUp a w M (nI p) = some (nI 0, M') ∧ PL M' a (plL S k p) ∧ ∀ b, (b < a ∨ a + 3 ≤ b) → M' b = M b := by
  have hn := h.nlow
  have hk := h.klow
  have fin : ∀ M0 : Mm, (∀ b, (b < a ∨ a + 3 ≤ b) → M0 b = M b) → PL M0 a (plB2 S p) → ∃ M', b_X3_drawUp_42 a w M0 (nI p) = some (nI 0, M') ∧ PL M' a (plL S k p) ∧ ∀ b, (b < a ∨ a + 3 ≤ b) → M' b = M b := fun M0 e0 hP =>
    drawI_ok h haw hp k 0 (by omega) FU M0 (by show _ < 4000; omega) e0 (by simp only [plI, List.append_nil]; exact hP)
  have fin2 : ∀ M0 : Mm, (∀ b, (b < a ∨ a + 3 ≤ b) → M0 b = M b) → PL M0 a (plA S p) → ∃ M', b_X3_drawUp_23 a w M0 (nI p) = some (nI 0, M') ∧ PL M' a (plL S k p) ∧ ∀ b, (b < a ∨ a + 3 ≤ b) → M' b = M b := fun M0 e0 hP => by
    have h0 := h.kept (M' := M0) fun b b1 b2 => e0 b (by omega)
    obtain ⟨c1, c2⟩ := h0.2.1.1.2.1 p hp
    have la := (plB_len S p).1
    unfold b_X3_drawUp_23
    by_cases e : fS S p = 2
    · obtain ⟨M1, r1, r2, r3⟩ := add_ok hP (by omega) 4 p
      obtain ⟨M', s1, s2⟩ := fin M1 (fun b hb => by rw [r3 b hb, e0 b hb]) (by unfold plB2; rw [if_pos e]; exact r2)
      refine ⟨M', ?_, s2⟩
      simp (disch := omega) only [li_0, li_1, li_2, li_3, li_4, li_5, li_6, li_7, li_8, li_9, li_10, li_11, li_12, li_13, li_14, li_15, li_16, li_17, li_18, li_19, li_20, li_21, li_22, li_23, li_24, li_25, li_26, li_27, li_28, li_29, li_30, li_31, li_32, li_33, li_34, li_35, li_36, li_37, li_38, li_39, li_40, li_41, li_42, li_43, li_44, li_45, li_46, li_47, li_48, li_49, li_50, li_51, li_52, li_53, li_54, li_55, li_56, li_57, li_58, li_59, li_60, li_61, li_62, li_63, li_71, li_72, li_73, li_81, li_82, li_97, li_98, li_99, li_100, li_101, li_102, li_105, li_110, li_111, li_116, li_117, li_126, li_161, li_233, li_932, li_1165, li_10000, li_100000, n_lt_t, n_lt_f, n_eq_t, n_eq_f, nI_add, n_sub, n_mul, n_ix, n_ckd, bnd_e, obn_s, zrk_0, zrk_1, zrk_b, zb_0, zb_1, zb_b, if_true, if_false, Bool.toNat_true, Bool.toNat_false, b0, b1, Bool.false_eq_true, Bool.true_eq_false, c1, e, r1, s1]
    · obtain ⟨M', s1, s2⟩ := fin M0 e0 (by unfold plB2; rw [if_neg e, List.append_nil]; exact hP)
      refine ⟨M', ?_, s2⟩
      simp (disch := omega) only [li_0, li_1, li_2, li_3, li_4, li_5, li_6, li_7, li_8, li_9, li_10, li_11, li_12, li_13, li_14, li_15, li_16, li_17, li_18, li_19, li_20, li_21, li_22, li_23, li_24, li_25, li_26, li_27, li_28, li_29, li_30, li_31, li_32, li_33, li_34, li_35, li_36, li_37, li_38, li_39, li_40, li_41, li_42, li_43, li_44, li_45, li_46, li_47, li_48, li_49, li_50, li_51, li_52, li_53, li_54, li_55, li_56, li_57, li_58, li_59, li_60, li_61, li_62, li_63, li_71, li_72, li_73, li_81, li_82, li_97, li_98, li_99, li_100, li_101, li_102, li_105, li_110, li_111, li_116, li_117, li_126, li_161, li_233, li_932, li_1165, li_10000, li_100000, n_lt_t, n_lt_f, n_eq_t, n_eq_f, nI_add, n_sub, n_mul, n_ix, n_ckd, bnd_e, obn_s, zrk_0, zrk_1, zrk_b, zb_0, zb_1, zb_b, if_true, if_false, Bool.toNat_true, Bool.toNat_false, b0, b1, Bool.false_eq_true, Bool.true_eq_false, c1, s1]
  have k0 : ∀ b, (b < a ∨ a + 3 ≤ b) → mst M a 0 (nI 0) b = M b := fun b hb => mst_n (by omega)
  have h0 := h.kept (M' := mst M a 0 (nI 0)) fun b b1 b2 => k0 b (by omega)
  have c2 := (h0.se hp).2.1
  have P0 : PL (mst M a 0 (nI 0)) a [] := ⟨by rw [mst_at, upd_at]; rfl, fun j e he => by simp at he⟩
  unfold f_X3_drawUp
  cases e : bS S 2 p
  · obtain ⟨M1, r1, r2, r3⟩ := add_ok P0 (by simp) 0 p
    obtain ⟨M', s1, s2⟩ := fin2 M1 (fun b hb => by rw [r3 b hb, k0 b hb]) (by unfold plA; rw [e]; exact r2)
    refine ⟨M', ?_, s2⟩
    simp (disch := omega) only [li_0, li_1, li_2, li_3, li_4, li_5, li_6, li_7, li_8, li_9, li_10, li_11, li_12, li_13, li_14, li_15, li_16, li_17, li_18, li_19, li_20, li_21, li_22, li_23, li_24, li_25, li_26, li_27, li_28, li_29, li_30, li_31, li_32, li_33, li_34, li_35, li_36, li_37, li_38, li_39, li_40, li_41, li_42, li_43, li_44, li_45, li_46, li_47, li_48, li_49, li_50, li_51, li_52, li_53, li_54, li_55, li_56, li_57, li_58, li_59, li_60, li_61, li_62, li_63, li_71, li_72, li_73, li_81, li_82, li_97, li_98, li_99, li_100, li_101, li_102, li_105, li_110, li_111, li_116, li_117, li_126, li_161, li_233, li_932, li_1165, li_10000, li_100000, n_lt_t, n_lt_f, n_eq_t, n_eq_f, nI_add, n_sub, n_mul, n_ix, n_ckd, bnd_e, obn_s, zrk_0, zrk_1, zrk_b, zb_0, zb_1, zb_b, if_true, if_false, Bool.toNat_true, Bool.toNat_false, b0, b1, Bool.false_eq_true, Bool.true_eq_false, c2, e, r1, s1]
  · obtain ⟨M', s1, s2⟩ := fin2 _ k0 (by unfold plA; rw [e]; exact P0)
    refine ⟨M', ?_, s2⟩
    simp (disch := omega) only [li_0, li_1, li_2, li_3, li_4, li_5, li_6, li_7, li_8, li_9, li_10, li_11, li_12, li_13, li_14, li_15, li_16, li_17, li_18, li_19, li_20, li_21, li_22, li_23, li_24, li_25, li_26, li_27, li_28, li_29, li_30, li_31, li_32, li_33, li_34, li_35, li_36, li_37, li_38, li_39, li_40, li_41, li_42, li_43, li_44, li_45, li_46, li_47, li_48, li_49, li_50, li_51, li_52, li_53, li_54, li_55, li_56, li_57, li_58, li_59, li_60, li_61, li_62, li_63, li_71, li_72, li_73, li_81, li_82, li_97, li_98, li_99, li_100, li_101, li_102, li_105, li_110, li_111, li_116, li_117, li_126, li_161, li_233, li_932, li_1165, li_10000, li_100000, n_lt_t, n_lt_f, n_eq_t, n_eq_f, nI_add, n_sub, n_mul, n_ix, n_ckd, bnd_e, obn_s, zrk_0, zrk_1, zrk_b, zb_0, zb_1, zb_b, if_true, if_false, Bool.toNat_true, Bool.toNat_false, b0, b1, Bool.false_eq_true, Bool.true_eq_false, c2, e, s1]
end E1

