/-! the class and the reference side by side -/
def Q (M : Mm) (X m : Nat) : Prop :=
  X + 233 ≤ m ∧ (∃ n k q, RW M (X + 1) (M (m + 1)) n k q) ∧ (∃ d, M m 3 = nI d ∧ Hs M (X + 33) (pT M m) d) ∧ ∃ z, z ≤ 60 ∧ M (X + 195) 0 = nI z ∧ M m 5 = nI z ∧ ∀ j, j < z → M (X + 196) j = M (m + 4) j
section QQ
variable {M : Mm} {X m : Nat}
/-- only what nobody asks for has changed -/
def Id2 (X m : Nat) (M2 M : Mm) : Prop :=
  (∀ b, (X + 1 < b ∧ b < X + 23 ∨ X + 33 ≤ b ∧ b < X + 195) → M2 b = M b) ∧ M2 (X + 195) 0 = M (X + 195) 0 ∧ M2 (X + 196) = M (X + 196) ∧ M2 (m + 4) = M (m + 4) ∧ (∀ j, j < 233 → M2 (m + 1) j = M (m + 1) j) ∧ M2 (m + 2) = M (m + 2) ∧ M2 m 3 = M m 3 ∧ M2 m 5 = M m 5
theorem Q.id {M2 : Mm} (H : Q M X m) (e : Id2 X m M2 M) : Q M2 X m := by
  obtain ⟨hm, ⟨n, k, q, h1⟩, ⟨d, h2, h3⟩, z, h4, h5, h6, h7⟩ := H
  obtain ⟨e1, e2, e3, e4, e5, e6, e7, e8⟩ := e
  refine ⟨hm, ⟨n, k, q, (h1.kept fun b b1 b2 => e1 b (Or.inl (by omega))).c e5⟩, ⟨d, by rw [e7, h2], (h3.kept fun b b1 b2 => e1 b (Or.inr (by omega))).c fun t ht j hj => ?_⟩, z, h4, by rw [e2, h5], by rw [e8, h6], fun j hj => by rw [e3, e4]; exact h7 j hj⟩
  unfold pT
  rw [e6]
theorem Id2.of {M2 : Mm} (hm : X + 233 ≤ m) (h : Scr (X + 1) M2 M) : Id2 X m M2 M := by
  refine ⟨fun b hb => h b (by omega), by rw [h _ (by omega)], h _ (by omega), h _ (by omega), fun j _ => by rw [h _ (by omega)], h _ (by omega), by rw [h _ (by omega)], by rw [h _ (by omega)]⟩
theorem Q.scr {M2 : Mm} (H : Q M X m) (h : Scr (X + 1) M2 M) : Q M2 X m := H.id (Id2.of H.1 h)
theorem keepQ (H : Q M X m) : ∃ (M1 : Mm) (R : Sm) (d' : Nat), f_X0_keep (X + 33) (X + 1) M = some (nI 0, M1) ∧ (∀ b, (b < X + 33 ∨ X + 195 ≤ b) → M1 b = M b) ∧
    (∀ M' : Mm, M' m 3 = M m 3 → M' (m + 1) = M (m + 1) → M' (m + 2) = M (m + 2) → f_X9_records m M' = some (nI 0, mst (mrow M' (m + 2) R) m 3 (nI d'))) ∧
    ∀ M' : Mm, (∀ b, X + 33 ≤ b → b < X + 195 → M' b = M1 b) → M' m 3 = nI d' → M' (m + 2) = R → ∃ d, M' m 3 = nI d ∧ Hs M' (X + 33) (pT M' m) d := by
  obtain ⟨hm, ⟨n, k, q, h1⟩, ⟨d, h2, h3⟩, -⟩ := H
  have hd := h3.1.2
  obtain ⟨M1, p1, p2, p3⟩ := keep_ok h3 (Or.inl (by omega)) h1
  refine ⟨M1, rcR (M (m + 2)) (M (m + 1)) d, dk d + 1, p1, fun b hb => p3 b (by omega), fun M' e1 e2 e3 => ?_, fun M' e1 e2 e3 => ⟨dk d + 1, e2, (p2.kept fun b b1 b2 => e1 b b1 (by omega)).c fun t ht j hj => ?_⟩⟩
  · have := records_ok (M := M') (m := m) (d := d) (by rw [e1, h2]) hd
    rw [e2, e3] at this
    exact this
  · show M' (m + 2) (233 * t + j) = (if t = dk d then M (m + 1) else pT M m (if d = 5 then t + 1 else t)) j
    rw [e3]
    by_cases g : t = dk d
    · rw [if_pos g, g, rc_new _ _ hj]
    · rw [if_neg g, rc_old _ _ hd (by omega) hj]
      rfl
/-- a change made and the state before it kept -/
theorem Q.mk {M1 M3 : Mm} {R : Sm} {d' : Nat} (H : Q M X m) (hW : ∃ n k q, RW M3 (X + 1) (M3 (m + 1)) n k q) (hH : ∀ M' : Mm, (∀ b, X + 33 ≤ b → b < X + 195 → M' b = M1 b) → M' m 3 = nI d' → M' (m + 2) = R → ∃ d, M' m 3 = nI d ∧ Hs M' (X + 33) (pT M' m) d)
    (e1 : ∀ b, X + 33 ≤ b → b < X + 195 → M3 b = M1 b) (e2 : M3 m 3 = nI d') (e3 : M3 (m + 2) = R) (e4 : M3 (X + 195) 0 = M (X + 195) 0) (e5 : M3 (X + 196) = M (X + 196)) (e6 : M3 m 5 = M m 5) (e7 : M3 (m + 4) = M (m + 4)) : Q M3 X m := by
  obtain ⟨hm, -, -, z, h4, h5, h6, h7⟩ := H
  exact ⟨hm, hW, hH M3 e1 e2 e3, z, h4, by rw [e4, h5], by rw [e6, h6], fun j hj => by rw [e5, e7]; exact h7 j hj⟩
/-! the answers, one after the other -/
def Same (X m : Nat) (f g : Mm → OR) (M : Mm) : Prop := ∃ r M1 M2, f M = some (r, M1) ∧ g M1 = some (r, M2) ∧ Q M2 X m
theorem s_undo (H : Q M X m) : Same X m (fun M => f_X8_undo X M) (fun M => f_X9_undo m M) M := by
  have H0 := H
  obtain ⟨hm, ⟨n, k, q, h1⟩, ⟨d, h2, h3⟩, z, h4, h5, h6, h7⟩ := H
  have hd := h3.1.2
  have hd0 := h3.1.1
  rcases Nat.eq_zero_or_pos d with g | g
  · subst g
    refine ⟨nI 0 - nI 2, M, M, ?_, ?_, H0⟩
    · unfold f_X8_undo
      simp (disch := omega) only [li_0, li_1, li_2, li_3, li_4, li_5, li_6, li_7, li_8, li_9, li_10, li_11, li_12, li_13, li_14, li_15, li_16, li_17, li_18, li_19, li_20, li_21, li_22, li_23, li_24, li_25, li_26, li_27, li_28, li_29, li_30, li_31, li_32, li_33, li_34, li_35, li_36, li_37, li_38, li_39, li_40, li_41, li_42, li_43, li_44, li_45, li_46, li_47, li_48, li_49, li_50, li_51, li_52, li_53, li_54, li_55, li_56, li_57, li_58, li_59, li_60, li_61, li_62, li_63, li_71, li_72, li_73, li_81, li_82, li_97, li_98, li_99, li_100, li_101, li_102, li_105, li_110, li_111, li_116, li_117, li_126, li_161, li_233, li_932, li_1165, li_10000, li_100000, n_lt_t, n_lt_f, n_eq_t, n_eq_f, nI_add, n_sub, n_mul, n_ix, n_ckd, bnd_e, obn_s, zrk_0, zrk_1, zrk_b, zb_0, zb_1, zb_b, if_true, if_false, Bool.toNat_true, Bool.toNat_false, b0, b1, Bool.false_eq_true, Bool.true_eq_false, hd0]
      rfl
    · unfold f_X9_undo
      simp (disch := omega) only [li_0, li_1, li_2, li_3, li_4, li_5, li_6, li_7, li_8, li_9, li_10, li_11, li_12, li_13, li_14, li_15, li_16, li_17, li_18, li_19, li_20, li_21, li_22, li_23, li_24, li_25, li_26, li_27, li_28, li_29, li_30, li_31, li_32, li_33, li_34, li_35, li_36, li_37, li_38, li_39, li_40, li_41, li_42, li_43, li_44, li_45, li_46, li_47, li_48, li_49, li_50, li_51, li_52, li_53, li_54, li_55, li_56, li_57, li_58, li_59, li_60, li_61, li_62, li_63, li_71, li_72, li_73, li_81, li_82, li_97, li_98, li_99, li_100, li_101, li_102, li_105, li_110, li_111, li_116, li_117, li_126, li_161, li_233, li_932, li_1165, li_10000, li_100000, n_lt_t, n_lt_f, n_eq_t, n_eq_f, nI_add, n_sub, n_mul, n_ix, n_ckd, bnd_e, obn_s, zrk_0, zrk_1, zrk_b, zb_0, zb_1, zb_b, if_true, if_false, Bool.toNat_true, Bool.toNat_false, b0, b1, Bool.false_eq_true, Bool.true_eq_false, h2]
      rfl
  · obtain ⟨d, rfl⟩ : ∃ x, d = x + 1 := ⟨d - 1, by omega⟩
    obtain ⟨M1, p1, p2, ⟨n1, k1, q1, p3⟩, p4⟩ := restore_ok h3 (v := X + 1) (Or.inl (by omega))
    have f1 : ∀ b, X + 195 ≤ b → M1 b = M b := fun b hb => p4 b (by omega) (by omega)
    have hu := undo_ok (M := M1) (m := m) (d := d) (by rw [f1 m (by omega), h2]) (by omega)
    refine ⟨nI d, M1, _, ?_, hu, hm, ⟨n1, k1, q1, ?_⟩, ⟨d, ?_, ?_⟩, z, h4, ?_, ?_, ?_⟩
    · show f_X8_undo X M = _
      unfold f_X8_undo
      simp (disch := omega) only [li_0, li_1, li_2, li_3, li_4, li_5, li_6, li_7, li_8, li_9, li_10, li_11, li_12, li_13, li_14, li_15, li_16, li_17, li_18, li_19, li_20, li_21, li_22, li_23, li_24, li_25, li_26, li_27, li_28, li_29, li_30, li_31, li_32, li_33, li_34, li_35, li_36, li_37, li_38, li_39, li_40, li_41, li_42, li_43, li_44, li_45, li_46, li_47, li_48, li_49, li_50, li_51, li_52, li_53, li_54, li_55, li_56, li_57, li_58, li_59, li_60, li_61, li_62, li_63, li_71, li_72, li_73, li_81, li_82, li_97, li_98, li_99, li_100, li_101, li_102, li_105, li_110, li_111, li_116, li_117, li_126, li_161, li_233, li_932, li_1165, li_10000, li_100000, n_lt_t, n_lt_f, n_eq_t, n_eq_f, nI_add, n_sub, n_mul, n_ix, n_ckd, bnd_e, obn_s, zrk_0, zrk_1, zrk_b, zb_0, zb_1, zb_b, if_true, if_false, Bool.toNat_true, Bool.toNat_false, b0, b1, Bool.false_eq_true, Bool.true_eq_false, hd0, p1, p2.1.1]
    · refine (p3.c fun j hj => ?_).kept fun b b1 b2 => ?_
      · rw [mrow_at, if_pos hj, f1 _ (by omega)]
        rfl
      · rw [mrow_n (by omega), mst_n (by omega)]
    · rw [mrow_n (by omega), mst_at, upd_at]
    · refine (p2.kept fun b b1 b2 => ?_).c fun t ht j hj => ?_
      · rw [mrow_n (by omega), mst_n (by omega)]
      · unfold pT
        rw [mrow_n (by omega), mst_n (by omega), f1 _ (by omega)]
    · rw [mrow_n (by omega), mst_n (by omega), f1 _ (by omega), h5]
    · rw [mrow_n (by omega), mst_at, upd_n (by omega), f1 _ (by omega), h6]
    · intro j hj
      rw [mrow_n (by omega), mrow_n (by omega), mst_n (by omega), mst_n (by omega), f1 _ (by omega), f1 _ (by omega)]
      exact h7 j hj
end QQ
