/-! plans asked for, plans tried -/
section E2
variable {M : Mm} {X m n k q w a : Nat} {S : Sm}
theorem plL_in (S : Sm) (k p : Nat) : ∀ e ∈ plL S k p, e.1 < 8 ∧ (e.2 = p ∧ e.1 ≠ 2 ∧ e.1 ≠ 3 ∨ e.2 < k ∧ e.1 = 2) := by
  have hI : ∀ i, i ≤ k → ∀ e ∈ plI S p i, e.1 < 8 ∧ (e.2 = p ∧ e.1 ≠ 2 ∧ e.1 ≠ 3 ∨ e.2 < k ∧ e.1 = 2) := by
    intro i
    induction i with
    | zero => intro _ e he; simp [plI] at he
    | succ i ih =>
      intro hi e he
      simp only [plI, List.mem_append] at he
      rcases he with he | he
      · exact ih (by omega) e he
      · split at he
        · simp at he; subst he; exact ⟨by show 2 < 8; omega, Or.inr ⟨by show i < k; omega, rfl⟩⟩
        · simp at he
  intro e he
  unfold plL plB2 plA at he
  simp only [List.mem_append] at he
  rcases he with ((he | he) | he) | he
  · split at he
    · simp at he
    · simp at he; subst he; exact ⟨by show 0 < 8; omega, Or.inl ⟨rfl, by show 0 ≠ 2; omega, by show 0 ≠ 3; omega⟩⟩
  · split at he
    · simp at he; subst he; exact ⟨by show 4 < 8; omega, Or.inl ⟨rfl, by show 4 ≠ 2; omega, by show 4 ≠ 3; omega⟩⟩
    · simp at he
  · exact hI k (Nat.le_refl _) e he
  · split at he
    · simp at he
    · simp at he; subst he; exact ⟨by show 6 < 8; omega, Or.inl ⟨rfl, by show 6 ≠ 2; omega, by show 6 ≠ 3; omega⟩⟩
theorem plL_plc {S : Sm} {k p n : Nat} (hp : p < n) : ∀ e ∈ plL S k p, e.1 < 8 ∧ plc n k e.1 e.2 := fun e he => by
  obtain ⟨h1, h2⟩ := plL_in S k p e he
  refine ⟨h1, ?_⟩
  unfold plc
  rcases h2 with ⟨a, b, c⟩ | ⟨a, b⟩
  · rw [if_neg (by omega), a]; exact hp
  · rw [if_pos (by omega)]; exact a
theorem plL_len (S : Sm) (k p : Nat) (hk : k ≤ 16) : (plL S k p).length ≤ 19 := by
  have h1 := (plB_len S p).2
  have h2 := plI_len S p k
  unfold plL
  simp only [List.length_append]
  split <;> simp <;> omega
/-- after a draft of a plan on both sides, nothing that counts has changed -/
theorem Q.draft {M1 M2 : Mm} (H : Q M X m) (h1 : ∀ b, (b < X + 197 ∨ X + 233 ≤ b) → M1 b = M b) (h2 : MK m M2 M1) : Q M2 X m := by
  have hm := H.1
  refine H.id ⟨fun b hb => ?_, ?_, ?_, ?_, fun j _ => ?_, ?_, ?_, ?_⟩
  · rw [h2.1 b (by omega) (by omega), h1 b (by omega)]
  · rw [h2.1 _ (by omega) (by omega), h1 _ (by omega)]
  · rw [h2.1 _ (by omega) (by omega), h1 _ (by omega)]
  · rw [h2.1 _ (by omega) (by omega), h1 _ (by omega)]
  · rw [h2.1 _ (by omega) (by omega), h1 _ (by omega)]
  · rw [h2.1 _ (by omega) (by omega), h1 _ (by omega)]
  · rw [h2.2 3 (by omega), h1 _ (by omega)]
  · rw [h2.2 5 (by omega), h1 _ (by omega)]
theorem s_plan (H : Q M X m) (x y : Int32) : Same X m (fun M => f_X8_plan X M x y) (fun M => f_X9_plan m M x y) M := by
  obtain ⟨hm, ⟨n, k, q, h1⟩, -⟩ := id H
  have hk := h1.klow
  by_cases g : secB (M (m + 1)) x = true
  · obtain ⟨p, hp, rfl⟩ := secP h1 g
    by_cases g0 : y < 0
    · refine ⟨-1, M, M, ?_, ?_, H⟩
      · show f_X8_plan X M _ _ = _
        unfold f_X8_plan b_X8_plan_15
        rw [hasSec_ok h1, g, obn_s, if_neg (by decide), if_pos g0]
      · show f_X9_plan m M _ _ = _
        unfold f_X9_plan b_X9_plan_12
        rw [m_isSection, g, obn_s, if_neg (by decide), if_pos g0]
    · obtain ⟨M1, p1, p2, p3⟩ := drawUp_ok h1 (a := X + 197) (by omega) hp
      have e1 : M1 (m + 1) = M (m + 1) := p3 _ (by omega)
      obtain ⟨M2, r1, r2, r3⟩ := laysPlan_ok (m := m) e1 h1.1 hp
      have hQ : Q M2 X m := H.draft (fun b hb => p3 b (by omega)) r3
      have ms : f_X9_isSection m M1 (nI p) = some (nI 1, M1) := by rw [m_isSection, e1, g]; rfl
      have hl := plL_len (M (m + 1)) k p hk
      by_cases g1 : y < nI (plL (M (m + 1)) k p).length
      · obtain ⟨j, hj, rfl⟩ := lt_nat (by omega) g0 g1
        obtain ⟨e, he⟩ : ∃ e, (plL (M (m + 1)) k p)[j]? = some e := ⟨_, List.getElem?_eq_getElem hj⟩
        obtain ⟨c1, c2⟩ := p2.2 j e he
        have c3 := r2.2 j e he
        refine ⟨nI (100 * e.1 + e.2), M1, M2, ?_, ?_, hQ⟩
        · show f_X8_plan X M _ _ = _
          unfold f_X8_plan
          rw [hasSec_ok h1, g, obn_s, if_neg (by decide), if_neg g0, p1, obn_s, p2.1, if_pos g1]
          simp (disch := omega) only [li_0, li_1, li_2, li_3, li_4, li_5, li_6, li_7, li_8, li_9, li_10, li_11, li_12, li_13, li_14, li_15, li_16, li_17, li_18, li_19, li_20, li_21, li_22, li_23, li_24, li_25, li_26, li_27, li_28, li_29, li_30, li_31, li_32, li_33, li_34, li_35, li_36, li_37, li_38, li_39, li_40, li_41, li_42, li_43, li_44, li_45, li_46, li_47, li_48, li_49, li_50, li_51, li_52, li_53, li_54, li_55, li_56, li_57, li_58, li_59, li_60, li_61, li_62, li_63, li_71, li_72, li_73, li_81, li_82, li_97, li_98, li_99, li_100, li_101, li_102, li_105, li_110, li_111, li_116, li_117, li_126, li_161, li_233, li_932, li_1165, li_10000, li_100000, n_lt_t, n_lt_f, n_eq_t, n_eq_f, nI_add, n_sub, n_mul, n_ix, n_ckd, bnd_e, obn_s, zrk_0, zrk_1, zrk_b, zb_0, zb_1, zb_b, if_true, if_false, Bool.toNat_true, Bool.toNat_false, b0, b1, Bool.false_eq_true, Bool.true_eq_false, c1, c2]
        · show f_X9_plan m M1 _ _ = _
          unfold f_X9_plan b_X9_plan_38
          rw [ms, obn_s, if_neg (by decide), if_neg g0, r1, obn_s, r2.1, if_pos g1]
          simp (disch := omega) only [li_0, li_1, li_2, li_3, li_4, li_5, li_6, li_7, li_8, li_9, li_10, li_11, li_12, li_13, li_14, li_15, li_16, li_17, li_18, li_19, li_20, li_21, li_22, li_23, li_24, li_25, li_26, li_27, li_28, li_29, li_30, li_31, li_32, li_33, li_34, li_35, li_36, li_37, li_38, li_39, li_40, li_41, li_42, li_43, li_44, li_45, li_46, li_47, li_48, li_49, li_50, li_51, li_52, li_53, li_54, li_55, li_56, li_57, li_58, li_59, li_60, li_61, li_62, li_63, li_71, li_72, li_73, li_81, li_82, li_97, li_98, li_99, li_100, li_101, li_102, li_105, li_110, li_111, li_116, li_117, li_126, li_161, li_233, li_932, li_1165, li_10000, li_100000, n_lt_t, n_lt_f, n_eq_t, n_eq_f, nI_add, n_sub, n_mul, n_ix, n_ckd, bnd_e, obn_s, zrk_0, zrk_1, zrk_b, zb_0, zb_1, zb_b, if_true, if_false, Bool.toNat_true, Bool.toNat_false, b0, b1, Bool.false_eq_true, Bool.true_eq_false, c3]
      · refine ⟨-4, M1, M2, ?_, ?_, hQ⟩
        · show f_X8_plan X M _ _ = _
          unfold f_X8_plan
          rw [hasSec_ok h1, g, obn_s, if_neg (by decide), if_neg g0, p1, obn_s, p2.1, if_neg g1]
        · show f_X9_plan m M1 _ _ = _
          unfold f_X9_plan b_X9_plan_38
          rw [ms, obn_s, if_neg (by decide), if_neg g0, r1, obn_s, r2.1, if_neg g1]
  · have g : secB (M (m + 1)) x = false := by simpa using g
    refine ⟨-1, M, M, ?_, ?_, H⟩
    · show f_X8_plan X M _ _ = _
      unfold f_X8_plan b_X8_plan_15
      rw [hasSec_ok h1, g, obn_s, if_pos (by decide)]
    · show f_X9_plan m M _ _ = _
      unfold f_X9_plan b_X9_plan_12
      rw [m_isSection, g, obn_s, if_pos (by decide)]
/-- how many of the steps may be made, one after the other -/
def runP (n k : Nat) : List (Nat × Nat) → Sm → Nat → Nat
  | [], _, _ => 0
  | e :: l, S, q => if rfS S n k e.1 e.2 = 0 then 1 + runP n k l (mkS S q e.1 e.2) (mkq q) else 0
theorem runP_c (n k : Nat) (e : Nat × Nat) (l : List (Nat × Nat)) (S : Sm) (q : Nat) : runP n k (e :: l) S q = if rfS S n k e.1 e.2 = 0 then 1 + runP n k l (mkS S q e.1 e.2) (mkq q) else 0 := rfl
theorem runP_n (n k : Nat) (S : Sm) (q : Nat) : runP n k [] S q = 0 := rfl
theorem begin_ok {r v : Nat} (hrv : v + 32 ≤ r ∨ r + 33 ≤ v) (h : RW M v S n k q) : ∃ M', f_X4_begin r v M = some (nI 0, M') ∧ RW M' (r + 1) S n k q ∧ (M' r 1 = nI 0 ∧ M' r 2 = nI 0 ∧ M' r 3 = nI 0) ∧ ∀ b, (b < r ∨ r + 33 ≤ b) → M' b = M b := by
  obtain ⟨M1, p1, p2, p3⟩ := copyW_ok (w := r + 1) (by omega) h
  refine ⟨mst (mst (mst M1 r 1 (nI 0)) r 2 (nI 0)) r 3 (nI 0), ?_, p2.kept fun b b1 b2 => by rw [mst_n (by omega), mst_n (by omega), mst_n (by omega)], ⟨?_, ?_, ?_⟩, fun b hb => by rw [mst_n (by omega), mst_n (by omega), mst_n (by omega), p3 b (by omega)]⟩
  · unfold f_X4_begin
    simp (disch := omega) only [li_0, li_1, li_2, li_3, li_4, li_5, li_6, li_7, li_8, li_9, li_10, li_11, li_12, li_13, li_14, li_15, li_16, li_17, li_18, li_19, li_20, li_21, li_22, li_23, li_24, li_25, li_26, li_27, li_28, li_29, li_30, li_31, li_32, li_33, li_34, li_35, li_36, li_37, li_38, li_39, li_40, li_41, li_42, li_43, li_44, li_45, li_46, li_47, li_48, li_49, li_50, li_51, li_52, li_53, li_54, li_55, li_56, li_57, li_58, li_59, li_60, li_61, li_62, li_63, li_71, li_72, li_73, li_81, li_82, li_97, li_98, li_99, li_100, li_101, li_102, li_105, li_110, li_111, li_116, li_117, li_126, li_161, li_233, li_932, li_1165, li_10000, li_100000, n_lt_t, n_lt_f, n_eq_t, n_eq_f, nI_add, n_sub, n_mul, n_ix, n_ckd, bnd_e, obn_s, zrk_0, zrk_1, zrk_b, zb_0, zb_1, zb_b, if_true, if_false, Bool.toNat_true, Bool.toNat_false, b0, b1, Bool.false_eq_true, Bool.true_eq_false, p1]
  · simp (disch := omega) only [mrow_n, mrow_at, mst_n, mst_at, upd_n, upd_at, mst_mrow]
  · simp (disch := omega) only [mrow_n, mrow_at, mst_n, mst_at, upd_n, upd_at, mst_mrow]
  · simp (disch := omega) only [mrow_n, mrow_at, mst_n, mst_at, upd_n, upd_at, mst_mrow]
theorem tryP_ok {r t : Nat} (v : Nat) (htr : t + 3 ≤ r) {l : List (Nat × Nat)} (hl : l.length ≤ 19) (hp : ∀ e ∈ l, e.1 < 8 ∧ plc n k e.1 e.2) : ∀ d j, j + d = l.length → ∀ k' (M : Mm) (S : Sm) (q : Nat), d < k' → RW M (r + 1) S n k q → PL M t l → M r 1 = nI j →
    ∃ M', l_X4_tryPlan_7 r v t k' M (nI j) = some (nI 0, M') ∧ M' r 1 = nI (j + runP n k (l.drop j) S q) ∧ ∀ b, (b < r ∨ r + 33 ≤ b) → M' b = M b := by
  intro d
  induction d with
  | zero =>
    intro j hj k' M S q hk' h hP h1
    obtain ⟨k'', rfl⟩ : ∃ x, k' = x + 1 := ⟨k' - 1, by omega⟩
    refine ⟨M, ?_, ?_, fun b _ => rfl⟩
    · rw [l_X4_tryPlan_7]
      simp (disch := omega) only [li_0, li_1, li_2, li_3, li_4, li_5, li_6, li_7, li_8, li_9, li_10, li_11, li_12, li_13, li_14, li_15, li_16, li_17, li_18, li_19, li_20, li_21, li_22, li_23, li_24, li_25, li_26, li_27, li_28, li_29, li_30, li_31, li_32, li_33, li_34, li_35, li_36, li_37, li_38, li_39, li_40, li_41, li_42, li_43, li_44, li_45, li_46, li_47, li_48, li_49, li_50, li_51, li_52, li_53, li_54, li_55, li_56, li_57, li_58, li_59, li_60, li_61, li_62, li_63, li_71, li_72, li_73, li_81, li_82, li_97, li_98, li_99, li_100, li_101, li_102, li_105, li_110, li_111, li_116, li_117, li_126, li_161, li_233, li_932, li_1165, li_10000, li_100000, n_lt_t, n_lt_f, n_eq_t, n_eq_f, nI_add, n_sub, n_mul, n_ix, n_ckd, bnd_e, obn_s, zrk_0, zrk_1, zrk_b, zb_0, zb_1, zb_b, if_true, if_false, Bool.toNat_true, Bool.toNat_false, b0, b1, Bool.false_eq_true, Bool.true_eq_false, hP.1]
    · rw [List.drop_eq_nil_of_le (by omega), h1]
      rfl
  | succ d ih =>
    intro j hj k' M S q hk' h hP h1
    obtain ⟨k'', rfl⟩ : ∃ x, k' = x + 1 := ⟨k' - 1, by omega⟩
    have hjl : j < l.length := by omega
    generalize he : l[j] = e
    have hej : l[j]? = some e := by rw [List.getElem?_eq_getElem hjl, he]
    obtain ⟨e8, ep⟩ := hp e (by rw [← he]; exact List.getElem_mem hjl)
    obtain ⟨c1, c2⟩ := hP.2 j e hej
    obtain ⟨M1, r1, r2⟩ := reason_ok h e8 ep
    have hdrop : l.drop j = e :: l.drop (j + 1) := by rw [List.drop_eq_getElem_cons hjl, he]
    have rl := rf_lt S n k e.1 e.2
    rw [l_X4_tryPlan_7, hdrop]
    by_cases g : rfS S n k e.1 e.2 = 0
    · rw [g] at r1
      have h2 : RW (mst M1 r 3 (nI 0)) (r + 1) S n k q := (h.scr r2).kept fun b b1 b2 => mst_n (by omega)
      obtain ⟨M2, s1, s2, s3⟩ := make_ok h2 e8 ep
      have hP2 : ∀ b, (b = t ∨ b = t + 1 ∨ b = t + 2) → M2 b = M b := fun b hb => by rw [s3 b (by omega), mst_n (by omega), r2 b (by omega)]
      have c1' : mst M1 r 3 (nI 0) (t + 1) j = nI e.1 := by rw [mst_n (by omega), r2 _ (by omega), c1]
      have c2' : mst M1 r 3 (nI 0) (t + 2) j = nI e.2 := by rw [mst_n (by omega), r2 _ (by omega), c2]
      have f1 : M2 r 1 = nI j := by rw [s3 _ (by omega), mst_at, upd_n (by omega), r2 _ (by omega), h1]
      have hPL : PL (mst M2 r 1 (nI (j + 1))) t l := by
        unfold PL
        rw [mst_n (by omega), mst_n (by omega), mst_n (by omega), hP2 _ (Or.inl rfl), hP2 _ (Or.inr (Or.inl rfl)), hP2 _ (Or.inr (Or.inr rfl))]
        exact hP
      obtain ⟨M', t1, t2, t3⟩ := ih (j + 1) (by omega) k'' (mst M2 r 1 (nI (j + 1))) _ _ (by omega) (s2.kept fun b b1 b2 => mst_n (by omega)) hPL (by rw [mst_at, upd_at])
      refine ⟨M', ?_, ?_, fun b hb => by rw [t3 b hb, mst_n (by omega), s3 b (by omega), mst_n (by omega), r2 b (by omega)]⟩
      · simp (disch := omega) only [li_0, li_1, li_2, li_3, li_4, li_5, li_6, li_7, li_8, li_9, li_10, li_11, li_12, li_13, li_14, li_15, li_16, li_17, li_18, li_19, li_20, li_21, li_22, li_23, li_24, li_25, li_26, li_27, li_28, li_29, li_30, li_31, li_32, li_33, li_34, li_35, li_36, li_37, li_38, li_39, li_40, li_41, li_42, li_43, li_44, li_45, li_46, li_47, li_48, li_49, li_50, li_51, li_52, li_53, li_54, li_55, li_56, li_57, li_58, li_59, li_60, li_61, li_62, li_63, li_71, li_72, li_73, li_81, li_82, li_97, li_98, li_99, li_100, li_101, li_102, li_105, li_110, li_111, li_116, li_117, li_126, li_161, li_233, li_932, li_1165, li_10000, li_100000, n_lt_t, n_lt_f, n_eq_t, n_eq_f, nI_add, n_sub, n_mul, n_ix, n_ckd, bnd_e, obn_s, zrk_0, zrk_1, zrk_b, zb_0, zb_1, zb_b, if_true, if_false, Bool.toNat_true, Bool.toNat_false, b0, b1, Bool.false_eq_true, Bool.true_eq_false, hP.1, c1, c2, r1, bnd_e]
        simp (disch := omega) only [li_0, li_1, li_2, li_3, li_4, li_5, li_6, li_7, li_8, li_9, li_10, li_11, li_12, li_13, li_14, li_15, li_16, li_17, li_18, li_19, li_20, li_21, li_22, li_23, li_24, li_25, li_26, li_27, li_28, li_29, li_30, li_31, li_32, li_33, li_34, li_35, li_36, li_37, li_38, li_39, li_40, li_41, li_42, li_43, li_44, li_45, li_46, li_47, li_48, li_49, li_50, li_51, li_52, li_53, li_54, li_55, li_56, li_57, li_58, li_59, li_60, li_61, li_62, li_63, li_71, li_72, li_73, li_81, li_82, li_97, li_98, li_99, li_100, li_101, li_102, li_105, li_110, li_111, li_116, li_117, li_126, li_161, li_233, li_932, li_1165, li_10000, li_100000, n_lt_t, n_lt_f, n_eq_t, n_eq_f, nI_add, n_sub, n_mul, n_ix, n_ckd, bnd_e, obn_s, zrk_0, zrk_1, zrk_b, zb_0, zb_1, zb_b, if_true, if_false, Bool.toNat_true, Bool.toNat_false, b0, b1, Bool.false_eq_true, Bool.true_eq_false, mrow_n, mrow_at, mst_n, mst_at, upd_n, upd_at, mst_mrow, c1', c2', s1, f1, t1]
      · rw [t2]
        rw [runP_c, if_pos g, show j + 1 + runP n k (l.drop (j + 1)) (mkS S q e.1 e.2) (mkq q) = j + (1 + runP n k (l.drop (j + 1)) (mkS S q e.1 e.2) (mkq q)) by omega]
    · refine ⟨mst M1 r 3 (nI (rfS S n k e.1 e.2)), ?_, ?_, fun b hb => by rw [mst_n (by omega), r2 b (by omega)]⟩
      · simp (disch := omega) only [li_0, li_1, li_2, li_3, li_4, li_5, li_6, li_7, li_8, li_9, li_10, li_11, li_12, li_13, li_14, li_15, li_16, li_17, li_18, li_19, li_20, li_21, li_22, li_23, li_24, li_25, li_26, li_27, li_28, li_29, li_30, li_31, li_32, li_33, li_34, li_35, li_36, li_37, li_38, li_39, li_40, li_41, li_42, li_43, li_44, li_45, li_46, li_47, li_48, li_49, li_50, li_51, li_52, li_53, li_54, li_55, li_56, li_57, li_58, li_59, li_60, li_61, li_62, li_63, li_71, li_72, li_73, li_81, li_82, li_97, li_98, li_99, li_100, li_101, li_102, li_105, li_110, li_111, li_116, li_117, li_126, li_161, li_233, li_932, li_1165, li_10000, li_100000, n_lt_t, n_lt_f, n_eq_t, n_eq_f, nI_add, n_sub, n_mul, n_ix, n_ckd, bnd_e, obn_s, zrk_0, zrk_1, zrk_b, zb_0, zb_1, zb_b, if_true, if_false, Bool.toNat_true, Bool.toNat_false, b0, b1, Bool.false_eq_true, Bool.true_eq_false, hP.1, c1, c2, r1, mrow_n, mrow_at, mst_n, mst_at, upd_n, upd_at, mst_mrow]
      · rw [runP_c, if_neg g, mst_at, upd_n (by omega), r2 _ (by omega), h1]
        rfl
theorem d100 : ∀ x, x < 8 → ∀ p, p < 16 → nI (100 * x + p) / 100 = nI x ∧ jrem (nI (100 * x + p)) 100 = nI p := by decide +kernel
/-- tried by the reference on its own state, which it brings back -/
theorem tryM_ok {l : List (Nat × Nat)} (hl : l.length ≤ 19) (hp : ∀ e ∈ l, e.1 < 8 ∧ plc n k e.1 e.2) : ∀ d j, j + d = l.length → ∀ k' (M : Mm) (S : Sm) (q : Nat), d < k' → M (m + 1) = S → Wf S n k q → PM M m l →
    ∃ M', l_X9_canPlan_21 m k' M (nI j) = some (nI (j + runP n k (l.drop j) S q), M') ∧ (∀ b, b ≠ m + 1 → M' b = M b) ∧ ∀ i, i < 233 → M' (m + 1) i = M (m + 3) i := by
  have back : ∀ (M : Mm) (r : Int32), ∃ M', b_X9_canPlan_82 m M r = some (r, M') ∧ (∀ b, b ≠ m + 1 → M' b = M b) ∧ ∀ i, i < 233 → M' (m + 1) i = M (m + 3) i := fun M r => by
    refine ⟨mrow M (m + 1) (fun j => if j < 233 then M (m + 3) j else M (m + 1) j), ?_, fun b hb => mrow_n hb, fun i hi => ?_⟩
    · unfold b_X9_canPlan_82
      rw [back_ok, obn_s]
    · rw [mrow_at, if_pos hi]
  intro d
  induction d with
  | zero =>
    intro j hj k' M S q hk' hS W hP
    obtain ⟨k'', rfl⟩ : ∃ x, k' = x + 1 := ⟨k' - 1, by omega⟩
    obtain ⟨M', b1, b2⟩ := back M (nI j)
    refine ⟨M', ?_, b2⟩
    rw [l_X9_canPlan_21, List.drop_eq_nil_of_le (by omega), runP_n, show j + 0 = j from rfl]
    rw [hP.1, if_neg (by rw [n_lt (by omega) (by omega)]; omega)]
    exact b1
  | succ d ih =>
    intro j hj k' M S q hk' hS W hP
    obtain ⟨k'', rfl⟩ : ∃ x, k' = x + 1 := ⟨k' - 1, by omega⟩
    have hn := W.1.2.1
    have hk := W.1.2.2.2.1
    have hjl : j < l.length := by omega
    generalize he : l[j] = e
    have hej : l[j]? = some e := by rw [List.getElem?_eq_getElem hjl, he]
    obtain ⟨e8, ep⟩ := hp e (by rw [← he]; exact List.getElem_mem hjl)
    have e16 : e.2 < 16 := by unfold plc at ep; split at ep <;> omega
    have c := hP.2 j e hej
    obtain ⟨d1, d2⟩ := d100 e.1 e8 e.2 e16
    have hdrop : l.drop j = e :: l.drop (j + 1) := by rw [List.drop_eq_getElem_cons hjl, he]
    have r1 := m_refuses (a := m) (M := M) (n := n) (k := k) (q := q) (by rw [hS]; exact W) e8 ep
    have r2 := m_makes (a := m) (M := M) (n := n) (k := k) (q := q) (by rw [hS]; exact W) e8 ep
    rw [hS] at r1 r2
    have rl := rf_lt S n k e.1 e.2
    rw [l_X9_canPlan_21, hdrop]
    by_cases g : rfS S n k e.1 e.2 = 0
    · rw [g] at r1
      have hP2 : PM (mrow M (m + 1) (mkS S q e.1 e.2)) m l := by
        unfold PM
        rw [mrow_n (by omega), mrow_n (by omega)]
        exact hP
      obtain ⟨M', t1, t2, t3⟩ := ih (j + 1) (by omega) k'' _ _ _ (by omega) (mrow_at M (m + 1) (mkS S q e.1 e.2)) (W.mk e8 ep) hP2
      refine ⟨M', ?_, fun b hb => by rw [t2 b hb, mrow_n hb], fun i hi => by rw [t3 i hi, mrow_n (by omega)]⟩
      rw [runP_c, if_pos g, show j + (1 + runP n k (l.drop (j + 1)) (mkS S q e.1 e.2) (mkq q)) = j + 1 + runP n k (l.drop (j + 1)) (mkS S q e.1 e.2) (mkq q) by omega, ← t1]
      rw [hP.1, n_ckd (by omega) (by omega), n_ckd (by omega) (by omega), show ix (nI j) = j from n_ix (by omega), c, d1, d2, r1, obn_s, if_pos (by rw [n_lt (by omega) (by omega)]; exact hjl), if_pos (show nI 0 = 0 from rfl), n_ckd (by omega) (by omega), n_ckd (by omega) (by omega), c, d1, d2, r2, obn_s, show (1 : Int32) = nI 1 from rfl, nI_add]
    · obtain ⟨M', b1, b2⟩ := back M (nI j)
      refine ⟨M', ?_, b2⟩
      rw [runP_c, if_neg g, show j + 0 = j from rfl, ← b1]
      rw [hP.1, n_ckd (by omega) (by omega), n_ckd (by omega) (by omega), show ix (nI j) = j from n_ix (by omega), c, d1, d2, r1, obn_s, if_pos (by rw [n_lt (by omega) (by omega)]; exact hjl), if_neg (by rw [show (0 : Int32) = nI 0 from rfl, n_eq (by omega) (by omega)]; exact g)]
theorem s_canPlan (H : Q M X m) (x : Int32) : Same X m (fun M => f_X8_canPlan X M x) (fun M => f_X9_canPlan m M x) M := by
  obtain ⟨hm, ⟨n, k, q, h1⟩, -⟩ := id H
  have hk := h1.klow
  by_cases g : secB (M (m + 1)) x = true
  · obtain ⟨p, hp, rfl⟩ := secP h1 g
    obtain ⟨M1, p1, p2, p3⟩ := drawUp_ok h1 (a := X + 197) (by omega) hp
    have h2 : RW M1 (X + 1) (M (m + 1)) n k q := h1.kept fun b b1 b2 => p3 b (by omega)
    obtain ⟨M2, q1, q2, ⟨q3, -⟩, q4⟩ := begin_ok (r := X + 200) (v := X + 1) (Or.inl (by omega)) h2
    have hl := plL_len (M (m + 1)) k p hk
    have hP2 : PL M2 (X + 197) (plL (M (m + 1)) k p) := by
      unfold PL
      rw [q4 _ (by omega), q4 _ (by omega), q4 _ (by omega)]
      exact p2
    obtain ⟨M3, t1, t2, t3⟩ := tryP_ok (X + 1) (r := X + 200) (t := X + 197) (by omega) hl (plL_plc hp) (plL (M (m + 1)) k p).length 0 (by omega) FU M2 (M (m + 1)) q (by show _ < 4000; omega) q2 hP2 q3
    have f3 : ∀ b, (b < X + 197 ∨ X + 233 ≤ b) → M3 b = M b := fun b hb => by rw [t3 b (by omega), q4 b (by omega), p3 b (by omega)]
    have e3 : M3 (m + 1) = M (m + 1) := f3 _ (by omega)
    obtain ⟨M4, r1, r2, r3⟩ := laysPlan_ok (m := m) e3 h1.1 hp
    have e4 : M4 (m + 1) = M (m + 1) := by rw [r3.1 _ (by omega) (by omega), e3]
    have as := aside_ok (M := M4) m
    generalize hM5 : mrow M4 (m + 3) (fun j => if j < 233 then M4 (m + 1) j else M4 (m + 3) j) = M5 at as
    have e5 : M5 (m + 1) = M (m + 1) := by rw [← hM5, mrow_n (by omega), e4]
    have hP5 : PM M5 m (plL (M (m + 1)) k p) := by
      unfold PM
      rw [← hM5, mrow_n (by omega), mrow_n (by omega)]
      exact r2
    obtain ⟨M6, u1, u2, u3⟩ := tryM_ok hl (plL_plc hp) (plL (M (m + 1)) k p).length 0 (by omega) FU M5 (M (m + 1)) q (by show _ < 4000; omega) e5 h1.1 hP5
    have ms : f_X9_isSection m M3 (nI p) = some (nI 1, M3) := by rw [m_isSection, e3, g]; rfl
    rw [List.drop_zero] at t2 u1
    refine ⟨nI (0 + runP n k (plL (M (m + 1)) k p) (M (m + 1)) q), M3, M6, ?_, ?_, ?_⟩
    · show f_X8_canPlan X M _ = _
      unfold f_X8_canPlan f_X4_tryPlan
      rw [hasSec_ok h1, g, obn_s, if_neg (by decide), p1, obn_s, q1, obn_s, show (0 : Int32) = nI 0 from rfl, t1, obn_s, t2]
    · show f_X9_canPlan m M3 _ = _
      unfold f_X9_canPlan
      rw [ms, obn_s, if_neg (by decide), r1, obn_s, as, obn_s, show (0 : Int32) = nI 0 from rfl, u1]
    · have f6 : ∀ b, b ≠ m + 1 → b ≠ m + 3 → M6 b = M4 b := fun b b1 b2 => by rw [u2 b b1, ← hM5, mrow_n b2]
      refine H.id ⟨fun b hb => ?_, ?_, ?_, ?_, fun j hj => ?_, ?_, ?_, ?_⟩
      · rw [f6 _ (by omega) (by omega), r3.1 b (by omega) (by omega), f3 b (by omega)]
      · rw [f6 _ (by omega) (by omega), r3.1 _ (by omega) (by omega), f3 _ (by omega)]
      · rw [f6 _ (by omega) (by omega), r3.1 _ (by omega) (by omega), f3 _ (by omega)]
      · rw [f6 _ (by omega) (by omega), r3.1 _ (by omega) (by omega), f3 _ (by omega)]
      · rw [u3 j hj, ← hM5, mrow_at, if_pos hj, e4]
      · rw [f6 _ (by omega) (by omega), r3.1 _ (by omega) (by omega), f3 _ (by omega)]
      · rw [f6 _ (by omega) (by omega), r3.2 3 (by omega), f3 _ (by omega)]
      · rw [f6 _ (by omega) (by omega), r3.2 5 (by omega), f3 _ (by omega)]
  · have g : secB (M (m + 1)) x = false := by simpa using g
    refine ⟨-1, M, M, ?_, ?_, H⟩
    · show f_X8_canPlan X M _ = _
      unfold f_X8_canPlan
      rw [hasSec_ok h1, g, obn_s, if_pos (by decide)]
    · show f_X9_canPlan m M _ = _
      unfold f_X9_canPlan
      rw [m_isSection, g, obn_s, if_pos (by decide)]
end E2
