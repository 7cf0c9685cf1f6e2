/-! the class and the reference side by side -/
/-- the clock and the times that gangs were promised -/
def Tm (S : Sm) : Prop := (∃ j, j ≤ 100000 ∧ S 3 = nI j) ∧ ∀ s, s < 10 → bS S 4 s = true → ∃ j, j ≤ 100000 ∧ aO S s 6 = nI j
theorem Tm.of {S S' : Sm} (h : Tm S) (e3 : S' 3 = S 3) (e : ∀ s, s < 10 → aO S' s 4 = aO S s 4 ∧ aO S' s 6 = aO S s 6) : Tm S' :=
  ⟨by rw [e3]; exact h.1, fun s hs hb => by
    rw [(e s hs).2]
    refine h.2 s hs ?_
    unfold bS at hb ⊢
    rw [← (e s hs).1]
    exact hb⟩
theorem Tm.c {S S' : Sm} (h : Tm S) (e : ∀ j, j < 233 → S' j = S j) : Tm S' := h.of (e 3 (by omega)) fun s hs => ⟨e _ (by omega), e _ (by omega)⟩
def Tms (M : Mm) (m : Nat) : Prop := Tm (M (m + 1)) ∧ ∀ d, M m 3 = nI d → d ≤ 5 → ∀ t, t < d → Tm (pT M m t)
def Q (M : Mm) (X m : Nat) : Prop :=
  X + 233 ≤ m ∧ (∃ n k q, RW M (X + 1) (M (m + 1)) n k q) ∧ (∃ d, M m 3 = nI d ∧ Hs M (X + 33) (pT M m) d) ∧ (∃ z, z ≤ 60 ∧ M (X + 195) 0 = nI z ∧ M m 5 = nI z ∧ ∀ j, j < z → M (X + 196) j = M (m + 4) j) ∧ Tms M m
section QQ
variable {M : Mm} {X m : Nat}
/-- only what nobody asks for has changed -/
def Id2 (X m : Nat) (M2 M : Mm) : Prop :=
  (∀ b, (X + 1 < b ∧ b < X + 23 ∨ X + 33 ≤ b ∧ b < X + 195) → M2 b = M b) ∧ M2 (X + 195) 0 = M (X + 195) 0 ∧ M2 (X + 196) = M (X + 196) ∧ M2 (m + 4) = M (m + 4) ∧ (∀ j, j < 233 → M2 (m + 1) j = M (m + 1) j) ∧ M2 (m + 2) = M (m + 2) ∧ M2 m 3 = M m 3 ∧ M2 m 5 = M m 5
theorem Q.id {M2 : Mm} (H : Q M X m) (e : Id2 X m M2 M) : Q M2 X m := by
  obtain ⟨hm, ⟨n, k, q, h1⟩, ⟨d, h2, h3⟩, ⟨z, h4, h5, h6, h7⟩, hT, hTs⟩ := H
  obtain ⟨e1, e2, e3, e4, e5, e6, e7, e8⟩ := e
  refine ⟨hm, ⟨n, k, q, (h1.kept fun b b1 b2 => e1 b (Or.inl (by omega))).c e5⟩, ⟨d, by rw [e7, h2], (h3.kept fun b b1 b2 => e1 b (Or.inr (by omega))).c fun t ht j hj => ?_⟩, ⟨z, h4, by rw [e2, h5], by rw [e8, h6], fun j hj => by rw [e3, e4]; exact h7 j hj⟩, hT.c e5, fun d' hd' h5' t ht => (hTs d' (by rw [← e7]; exact hd') h5' t ht).c fun j hj => ?_⟩
  · unfold pT
    rw [e6]
  · unfold pT
    rw [e6]
theorem Id2.of {M2 : Mm} (hm : X + 233 ≤ m) (h : Scr (X + 1) M2 M) : Id2 X m M2 M := by
  refine ⟨fun b hb => h b (by omega), by rw [h _ (by omega)], h _ (by omega), h _ (by omega), fun j _ => by rw [h _ (by omega)], h _ (by omega), by rw [h _ (by omega)], by rw [h _ (by omega)]⟩
theorem Q.scr {M2 : Mm} (H : Q M X m) (h : Scr (X + 1) M2 M) : Q M2 X m := H.id (Id2.of H.1 h)
theorem nI_ltI_eq {a b : Nat} (h : nI a = nI b) (ha : a < 1000) (hb : b < 1000) : a = b := (n_eq (by omega) (by omega)).mp h
theorem keepQ (H : Q M X m) : ∃ (M1 : Mm) (R : Sm) (d' : Nat), f_X0_keep (X + 33) (X + 1) M = some (nI 0, M1) ∧ (∀ b, (b < X + 33 ∨ X + 195 ≤ b) → M1 b = M b) ∧
    (∀ M' : Mm, M' m 3 = M m 3 → M' (m + 1) = M (m + 1) → M' (m + 2) = M (m + 2) → f_X9_records m M' = some (nI 0, mst (mrow M' (m + 2) R) m 3 (nI d'))) ∧
    ∀ M' : Mm, (∀ b, X + 33 ≤ b → b < X + 195 → M' b = M1 b) → M' m 3 = nI d' → M' (m + 2) = R → (∃ d, M' m 3 = nI d ∧ Hs M' (X + 33) (pT M' m) d) ∧ ∀ d, M' m 3 = nI d → d ≤ 5 → ∀ t, t < d → Tm (pT M' m t) := by
  obtain ⟨hm, ⟨n, k, q, h1⟩, ⟨d, h2, h3⟩, -, hT, hTs⟩ := H
  have hd := h3.1.2
  obtain ⟨M1, p1, p2, p3⟩ := keep_ok h3 (Or.inl (by omega)) h1
  refine ⟨M1, rcR (M (m + 2)) (M (m + 1)) d, dk d + 1, p1, fun b hb => p3 b (by omega), fun M' e1 e2 e3 => ?_, fun M' e1 e2 e3 => ⟨⟨dk d + 1, e2, (p2.kept fun b b1 b2 => e1 b b1 (by omega)).c fun t ht j hj => ?_⟩, fun d2 hd2 hd5 t ht => ?_⟩⟩
  · have := records_ok (M := M') (m := m) (d := d) (by rw [e1, h2]) hd
    rw [e2, e3] at this
    exact this
  · show M' (m + 2) (233 * t + j) = (if t = dk d then M (m + 1) else pT M m (if d = 5 then t + 1 else t)) j
    rw [e3]
    by_cases g : t = dk d
    · rw [if_pos g, g, rc_new _ _ hj]
    · rw [if_neg g, rc_old _ _ hd (by omega) hj]
      rfl
  · have hdk : dk d ≤ 4 := by unfold dk; split <;> omega
    have h9 : dk d + 1 = d2 := by
      rw [e2] at hd2
      exact (nI_ltI_eq hd2 (by omega) (by omega))
    subst h9
    by_cases g : t = dk d
    · subst g
      refine hT.c fun j hj => ?_
      show M' (m + 2) (233 * dk d + j) = _
      rw [e3, rc_new _ _ hj]
    · refine (hTs d h2 hd (if d = 5 then t + 1 else t) (by
        have h8 : t < dk d := by omega
        unfold dk at h8
        by_cases y : d = 5
        · rw [if_pos y] at h8 ⊢; omega
        · rw [if_neg y] at h8 ⊢; exact h8)).c fun j hj => ?_
      show M' (m + 2) (233 * t + j) = _
      rw [e3, rc_old _ _ hd (by omega) hj]
      rfl
/-- a change made and the state before it kept -/
theorem Q.mk {M1 M3 : Mm} {R : Sm} {d' : Nat} (H : Q M X m) (hW : ∃ n k q, RW M3 (X + 1) (M3 (m + 1)) n k q) (hH : ∀ M' : Mm, (∀ b, X + 33 ≤ b → b < X + 195 → M' b = M1 b) → M' m 3 = nI d' → M' (m + 2) = R → (∃ d, M' m 3 = nI d ∧ Hs M' (X + 33) (pT M' m) d) ∧ ∀ d, M' m 3 = nI d → d ≤ 5 → ∀ t, t < d → Tm (pT M' m t)) (hT : Tm (M3 (m + 1)))
    (e1 : ∀ b, X + 33 ≤ b → b < X + 195 → M3 b = M1 b) (e2 : M3 m 3 = nI d') (e3 : M3 (m + 2) = R) (e4 : M3 (X + 195) 0 = M (X + 195) 0) (e5 : M3 (X + 196) = M (X + 196)) (e6 : M3 m 5 = M m 5) (e7 : M3 (m + 4) = M (m + 4)) : Q M3 X m := by
  obtain ⟨hm, -, -, ⟨z, h4, h5, h6, h7⟩, -⟩ := H
  exact ⟨hm, hW, (hH M3 e1 e2 e3).1, ⟨z, h4, by rw [e4, h5], by rw [e6, h6], fun j hj => by rw [e5, e7]; exact h7 j hj⟩, hT, (hH M3 e1 e2 e3).2⟩
/-! the answers, one after the other -/
def Same (X m : Nat) (f g : Mm → OR) (M : Mm) : Prop := ∃ r M1 M2, f M = some (r, M1) ∧ g M1 = some (r, M2) ∧ Q M2 X m
theorem s_undo (H : Q M X m) : Same X m (fun M => f_X8_undo X M) (fun M => f_X9_undo m M) M := by
  have H0 := H
  obtain ⟨hm, ⟨n, k, q, h1⟩, ⟨d, h2, h3⟩, ⟨z, h4, h5, h6, h7⟩, hT, hTs⟩ := H
  have hd := h3.1.2
  have hd0 := h3.1.1
  rcases Nat.eq_zero_or_pos d with g | g
  · subst g
    refine ⟨nI 0 - nI 2, M, M, ?_, ?_, H0⟩
    · unfold f_X8_undo
      simp (disch := omega) only [li_0, li_1, li_2, li_3, li_4, li_5, li_6, li_7, li_8, li_9, li_10, li_11, li_12, li_13, li_14, li_15, li_16, li_17, li_18, li_19, li_20, li_21, li_22, li_23, li_24, li_25, li_26, li_27, li_28, li_29, li_30, li_31, li_32, li_33, li_34, li_35, li_36, li_37, li_38, li_39, li_40, li_41, li_42, li_43, li_44, li_45, li_46, li_47, li_48, li_49, li_50, li_51, li_52, li_53, li_54, li_55, li_56, li_57, li_58, li_59, li_60, li_61, li_62, li_63, li_71, li_72, li_73, li_81, li_82, li_97, li_98, li_99, li_100, li_101, li_102, li_105, li_110, li_111, li_116, li_117, li_126, li_161, li_233, li_932, li_1165, li_10000, li_100000, n_lt_t, n_lt_f, n_eq_t, n_eq_f, nI_add, n_sub, n_mul, n_ix, n_ckd, bnd_e, obn_s, zrk_0, zrk_1, zrk_b, zb_0, zb_1, zb_b, if_true, if_false, Bool.toNat_true, Bool.toNat_false, b0, b1, Bool.false_eq_true, Bool.true_eq_false, hd0]
      rfl
    · unfold f_X9_undo
      simp (disch := omega) only [li_0, li_1, li_2, li_3, li_4, li_5, li_6, li_7, li_8, li_9, li_10, li_11, li_12, li_13, li_14, li_15, li_16, li_17, li_18, li_19, li_20, li_21, li_22, li_23, li_24, li_25, li_26, li_27, li_28, li_29, li_30, li_31, li_32, li_33, li_34, li_35, li_36, li_37, li_38, li_39, li_40, li_41, li_42, li_43, li_44, li_45, li_46, li_47, li_48, li_49, li_50, li_51, li_52, li_53, li_54, li_55, li_56, li_57, li_58, li_59, li_60, li_61, li_62, li_63, li_71, li_72, li_73, li_81, li_82, li_97, li_98, li_99, li_100, li_101, li_102, li_105, li_110, li_111, li_116, li_117, li_126, li_161, li_233, li_932, li_1165, li_10000, li_100000, n_lt_t, n_lt_f, n_eq_t, n_eq_f, nI_add, n_sub, n_mul, n_ix, n_ckd, bnd_e, obn_s, zrk_0, zrk_1, zrk_b, zb_0, zb_1, zb_b, if_true, if_false, Bool.toNat_true, Bool.toNat_false, b0, b1, Bool.false_eq_true, Bool.true_eq_false, h2]
      rfl
  · obtain ⟨d, rfl⟩ : ∃ x, d = x + 1 := ⟨d - 1, by omega⟩
    obtain ⟨M1, p1, p2, ⟨n1, k1, q1, p3⟩, p4⟩ := restore_ok h3 (v := X + 1) (Or.inl (by omega))
    have f1 : ∀ b, X + 195 ≤ b → M1 b = M b := fun b hb => p4 b (by omega) (by omega)
    have hu := undo_ok (M := M1) (m := m) (d := d) (by rw [f1 m (by omega), h2]) (by omega)
    refine ⟨nI d, M1, _, ?_, hu, hm, ⟨n1, k1, q1, ?_⟩, ⟨d, ?_, ?_⟩, ⟨z, h4, ?_, ?_, ?_⟩, ?_, ?_⟩
    · show f_X8_undo X M = _
      unfold f_X8_undo
      simp (disch := omega) only [li_0, li_1, li_2, li_3, li_4, li_5, li_6, li_7, li_8, li_9, li_10, li_11, li_12, li_13, li_14, li_15, li_16, li_17, li_18, li_19, li_20, li_21, li_22, li_23, li_24, li_25, li_26, li_27, li_28, li_29, li_30, li_31, li_32, li_33, li_34, li_35, li_36, li_37, li_38, li_39, li_40, li_41, li_42, li_43, li_44, li_45, li_46, li_47, li_48, li_49, li_50, li_51, li_52, li_53, li_54, li_55, li_56, li_57, li_58, li_59, li_60, li_61, li_62, li_63, li_71, li_72, li_73, li_81, li_82, li_97, li_98, li_99, li_100, li_101, li_102, li_105, li_110, li_111, li_116, li_117, li_126, li_161, li_233, li_932, li_1165, li_10000, li_100000, n_lt_t, n_lt_f, n_eq_t, n_eq_f, nI_add, n_sub, n_mul, n_ix, n_ckd, bnd_e, obn_s, zrk_0, zrk_1, zrk_b, zb_0, zb_1, zb_b, if_true, if_false, Bool.toNat_true, Bool.toNat_false, b0, b1, Bool.false_eq_true, Bool.true_eq_false, hd0, p1, p2.1.1]
    · refine (p3.c fun j hj => ?_).kept fun b b1 b2 => ?_
      · rw [mrow_at, if_pos hj, f1 _ (by omega)]
        rfl
      · rw [mrow_n (by omega), mst_n (by omega)]
    · rw [mrow_n (by omega), mst_at, upd_at]
    · refine (p2.kept fun b b1 b2 => ?_).c fun t ht j hj => ?_
      · rw [mrow_n (by omega), mst_n (by omega)]
      · unfold pT
        rw [mrow_n (by omega), mst_n (by omega), f1 _ (by omega)]
    · rw [mrow_n (by omega), mst_n (by omega), f1 _ (by omega), h5]
    · rw [mrow_n (by omega), mst_at, upd_n (by omega), f1 _ (by omega), h6]
    · intro j hj
      rw [mrow_n (by omega), mrow_n (by omega), mst_n (by omega), mst_n (by omega), f1 _ (by omega), f1 _ (by omega)]
      exact h7 j hj
    · rw [mrow_at]
      refine (hTs (d + 1) h2 hd d (by omega)).c fun j hj => ?_
      rw [if_pos hj, f1 _ (by omega)]
      rfl
    · intro d2 e2 h52 t ht
      rw [mrow_n (by omega), mst_at, upd_at] at e2
      have := nI_ltI_eq e2 (by omega) (by omega)
      subst this
      refine (hTs (d + 1) h2 hd t (by omega)).c fun j hj => ?_
      unfold pT
      rw [mrow_n (by omega), mst_n (by omega), f1 _ (by omega)]
/-- a change made, kept on both sides -/
theorem mutQ (H : Q M X m) : ∃ (M1 : Mm) (R : Sm) (d' : Nat), f_X0_keep (X + 33) (X + 1) M = some (nI 0, M1) ∧ (∀ b, (b < X + 33 ∨ X + 195 ≤ b) → M1 b = M b) ∧
    ∀ M2 : Mm, (∀ b, (b < X + 1 ∨ X + 33 ≤ b) → M2 b = M1 b) → f_X9_records m M2 = some (nI 0, mst (mrow M2 (m + 2) R) m 3 (nI d')) ∧ mst (mrow M2 (m + 2) R) m 3 (nI d') (m + 1) = M (m + 1) ∧
      ∀ S' n' k' q', RW M2 (X + 1) S' n' k' q' → Tm S' → Q (mrow (mst (mrow M2 (m + 2) R) m 3 (nI d')) (m + 1) S') X m := by
  have hm := H.1
  obtain ⟨M1, R, d', k1, k2, k3, k4⟩ := keepQ H
  refine ⟨M1, R, d', k1, k2, fun M2 f2 => ?_⟩
  have c2 : ∀ b, X + 195 ≤ b → M2 b = M b := fun b hb => by rw [f2 b (by omega), k2 b (by omega)]
  refine ⟨k3 M2 (by rw [c2 m (by omega)]) (c2 _ (by omega)) (c2 _ (by omega)), by rw [mst_n (by omega), mrow_n (by omega), c2 _ (by omega)], fun S' n' k' q' hW hT => ?_⟩
  generalize hM4 : mst (mrow M2 (m + 2) R) m 3 (nI d') = M4
  have c5 : ∀ b, b ≠ m → b ≠ m + 1 → b ≠ m + 2 → mrow M4 (m + 1) S' b = M2 b := fun b b1 b2 b3 => by rw [mrow_n b2, ← hM4, mst_n b1, mrow_n b3]
  have c6 : ∀ j, mrow M4 (m + 1) S' m j = if j = 3 then nI d' else M m j := fun j => by rw [mrow_n (by omega), ← hM4, mst_at, mrow_n (by omega), upd_r, c2 m (by omega)]
  refine H.mk ⟨n', k', q', ?_⟩ k4 (by rw [mrow_at]; exact hT) (fun b b1 b2 => ?_) ?_ ?_ ?_ ?_ ?_ ?_
  · rw [mrow_at]
    exact hW.kept fun b b1 b2 => c5 b (by omega) (by omega) (by omega)
  · rw [c5 b (by omega) (by omega) (by omega), f2 b (by omega)]
  · rw [c6, if_pos rfl]
  · rw [mrow_n (by omega), ← hM4, mst_n (by omega), mrow_at]
  · rw [c5 _ (by omega) (by omega) (by omega), c2 _ (by omega)]
  · rw [c5 _ (by omega) (by omega) (by omega), c2 _ (by omega)]
  · rw [c6, if_neg (by decide)]
  · rw [c5 _ (by omega) (by omega) (by omega), c2 _ (by omega)]
end QQ
