/-! plans asked for, plans tried -/
section E2
variable {M : Mm} {X m n k q w a : Nat} {S : Sm}
theorem plL_in (S : Sm) (k p : Nat) : ∀ e ∈ plL S k p, e.1 < 8 ∧ (e.2 = p ∧ e.1 ≠ 2 ∧ e.1 ≠ 3 ∨ e.2 < k ∧ e.1 = 2) := by
  have hI : ∀ i, i ≤ k → ∀ e ∈ plI S p i, e.1 < 8 ∧ (e.2 = p ∧ e.1 ≠ 2 ∧ e.1 ≠ 3 ∨ e.2 < k ∧ e.1 = 2) := by
    intro i
    induction i with
    | zero => intro _ e he; simp [plI] at he
    | succ i ih =>
      intro hi e he
      simp only [plI, List.mem_append] at he
      rcases he with he | he
      · exact ih (by omega) e he
      · split at he
        · simp at he; subst he; exact ⟨by show 2 < 8; omega, Or.inr ⟨by show i < k; omega, rfl⟩⟩
        · simp at he
  intro e he
  unfold plL plB2 plA at he
  simp only [List.mem_append] at he
  rcases he with ((he | he) | he) | he
  · split at he
    · simp at he
    · simp at he; subst he; exact ⟨by show 0 < 8; omega, Or.inl ⟨rfl, by show 0 ≠ 2; omega, by show 0 ≠ 3; omega⟩⟩
  · split at he
    · simp at he; subst he; exact ⟨by show 4 < 8; omega, Or.inl ⟨rfl, by show 4 ≠ 2; omega, by show 4 ≠ 3; omega⟩⟩
    · simp at he
  · exact hI k (Nat.le_refl _) e he
  · split at he
    · simp at he
    · simp at he; subst he; exact ⟨by show 6 < 8; omega, Or.inl ⟨rfl, by show 6 ≠ 2; omega, by show 6 ≠ 3; omega⟩⟩
theorem plL_plc {S : Sm} {k p n : Nat} (hp : p < n) : ∀ e ∈ plL S k p, e.1 < 8 ∧ plc n k e.1 e.2 := fun e he => by
  obtain ⟨h1, h2⟩ := plL_in S k p e he
  refine ⟨h1, ?_⟩
  unfold plc
  rcases h2 with ⟨a, b, c⟩ | ⟨a, b⟩
  · rw [if_neg (by omega), a]; exact hp
  · rw [if_pos (by omega)]; exact a
theorem plL_len (S : Sm) (k p : Nat) (hk : k ≤ 16) : (plL S k p).length ≤ 19 := by
  have h1 := (plB_len S p).2
  have h2 := plI_len S p k
  unfold plL
  simp only [List.length_append]
  split <;> simp <;> omega
/-- how many of the steps may be made, one after the other -/
def runP (n k : Nat) : List (Nat × Nat) → Sm → Nat → Nat
  | [], _, _ => 0
  | e :: l, S, q => if rfS S n k e.1 e.2 = 0 then 1 + runP n k l (mkS S q e.1 e.2) (mkq q) else 0
theorem runP_c (n k : Nat) (e : Nat × Nat) (l : List (Nat × Nat)) (S : Sm) (q : Nat) : runP n k (e :: l) S q = if rfS S n k e.1 e.2 = 0 then 1 + runP n k l (mkS S q e.1 e.2) (mkq q) else 0 := rfl
theorem runP_n (n k : Nat) (S : Sm) (q : Nat) : runP n k [] S q = 0 := rfl
theorem begin_ok {r v : Nat} (hrv : v + 32 ≤ r ∨ r + 33 ≤ v) (h : RW M v S n k q) : ∃ M', f_X4_begin r v M = some (nI 0, M') ∧ RW M' (r + 1) S n k q ∧ (M' r 1 = nI 0 ∧ M' r 2 = nI 0 ∧ M' r 3 = nI 0) ∧ ∀ b, (b < r ∨ r + 33 ≤ b) → M' b = M b := by
  obtain ⟨M1, p1, p2, p3⟩ := copyW_ok (w := r + 1) (by omega) h
  refine ⟨mst (mst (mst M1 r 1 (nI 0)) r 2 (nI 0)) r 3 (nI 0), ?_, p2.kept fun b b1 b2 => by rw [mst_n (by omega), mst_n (by omega), mst_n (by omega)], ⟨?_, ?_, ?_⟩, fun b hb => by rw [mst_n (by omega), mst_n (by omega), mst_n (by omega), p3 b (by omega)]⟩
  · unfold f_X4_begin
    simp (disch := omega) only [li_0, li_1, li_2, li_3, li_4, li_5, li_6, li_7, li_8, li_9, li_10, li_11, li_12, li_13, li_14, li_15, li_16, li_17, li_18, li_19, li_20, li_21, li_22, li_23, li_24, li_25, li_26, li_27, li_28, li_29, li_30, li_31, li_32, li_33, li_34, li_35, li_36, li_37, li_38, li_39, li_40, li_41, li_42, li_43, li_44, li_45, li_46, li_47, li_48, li_49, li_50, li_51, li_52, li_53, li_54, li_55, li_56, li_57, li_58, li_59, li_60, li_61, li_62, li_63, li_71, li_72, li_73, li_81, li_82, li_97, li_98, li_99, li_100, li_101, li_102, li_105, li_110, li_111, li_116, li_117, li_126, li_161, li_233, li_932, li_1165, li_10000, li_100000, n_lt_t, n_lt_f, n_eq_t, n_eq_f, nI_add, n_sub, n_mul, n_ix, n_ckd, bnd_e, obn_s, zrk_0, zrk_1, zrk_b, zb_0, zb_1, zb_b, if_true, if_false, Bool.toNat_true, Bool.toNat_false, b0, b1, Bool.false_eq_true, Bool.true_eq_false, p1]
  · simp (disch := omega) only [mrow_n, mrow_at, mst_n, mst_at, upd_n, upd_at, mst_mrow]
  · simp (disch := omega) only [mrow_n, mrow_at, mst_n, mst_at, upd_n, upd_at, mst_mrow]
  · simp (disch := omega) only [mrow_n, mrow_at, mst_n, mst_at, upd_n, upd_at, mst_mrow]
theorem tryP_ok {r t : Nat} (v : Nat) (htr : t + 3 ≤ r) {l : List (Nat × Nat)} (hl : l.length ≤ 19) (hp : ∀ e ∈ l, e.1 < 8 ∧ plc n k e.1 e.2) : ∀ d j, j + d = l.length → ∀ k' (M : Mm) (S : Sm) (q : Nat), d < k' → RW M (r + 1) S n k q → PL M t l → M r 1 = nI j →
    ∃ M', l_X4_tryPlan_7 r v t k' M (nI j) = some (nI 0, M') ∧ M' r 1 = nI (j + runP n k (l.drop j) S q) ∧ ∀ b, (b < r ∨ r + 33 ≤ b) → M' b = M b := by
  intro d
  induction d with
  | zero =>
    intro j hj k' M S q hk' h hP h1
    obtain ⟨k'', rfl⟩ : ∃ x, k' = x + 1 := ⟨k' - 1, by omega⟩
    refine ⟨M, ?_, ?_, fun b _ => rfl⟩
    · rw [l_X4_tryPlan_7]
      simp (disch := omega) only [li_0, li_1, li_2, li_3, li_4, li_5, li_6, li_7, li_8, li_9, li_10, li_11, li_12, li_13, li_14, li_15, li_16, li_17, li_18, li_19, li_20, li_21, li_22, li_23, li_24, li_25, li_26, li_27, li_28, li_29, li_30, li_31, li_32, li_33, li_34, li_35, li_36, li_37, li_38, li_39, li_40, li_41, li_42, li_43, li_44, li_45, li_46, li_47, li_48, li_49, li_50, li_51, li_52, li_53, li_54, li_55, li_56, li_57, li_58, li_59, li_60, li_61, li_62, li_63, li_71, li_72, li_73, li_81, li_82, li_97, li_98, li_99, li_100, li_101, li_102, li_105, li_110, li_111, li_116, li_117, li_126, li_161, li_233, li_932, li_1165, li_10000, li_100000, n_lt_t, n_lt_f, n_eq_t, n_eq_f, nI_add, n_sub, n_mul, n_ix, n_ckd, bnd_e, obn_s, zrk_0, zrk_1, zrk_b, zb_0, zb_1, zb_b, if_true, if_false, Bool.toNat_true, Bool.toNat_false, b0, b1, Bool.false_eq_true, Bool.true_eq_false, hP.1]
    · rw [List.drop_eq_nil_of_le (by omega), h1]
      rfl
  | succ d ih =>
    intro j hj k' M S q hk' h hP h1
    obtain ⟨k'', rfl⟩ : ∃ x, k' = x + 1 := ⟨k' - 1, by omega⟩
    have hjl : j < l.length := by omega
    generalize he : l[j] = e
    have hej : l[j]? = some e := by rw [List.getElem?_eq_getElem hjl, he]
    obtain ⟨e8, ep⟩ := hp e (by rw [← he]; exact List.getElem_mem hjl)
    obtain ⟨c1, c2⟩ := hP.2 j e hej
    obtain ⟨M1, r1, r2⟩ := reason_ok h e8 ep
    have hdrop : l.drop j = e :: l.drop (j + 1) := by rw [List.drop_eq_getElem_cons hjl, he]
    have rl := rf_lt S n k e.1 e.2
    rw [l_X4_tryPlan_7, hdrop]
    by_cases g : rfS S n k e.1 e.2 = 0
    · rw [g] at r1
      have h2 : RW (mst M1 r 3 (nI 0)) (r + 1) S n k q := (h.scr r2).kept fun b b1 b2 => mst_n (by omega)
      obtain ⟨M2, s1, s2, s3⟩ := make_ok h2 e8 ep
      have hP2 : ∀ b, (b = t ∨ b = t + 1 ∨ b = t + 2) → M2 b = M b := fun b hb => by rw [s3 b (by omega), mst_n (by omega), r2 b (by omega)]
      have c1' : mst M1 r 3 (nI 0) (t + 1) j = nI e.1 := by rw [mst_n (by omega), r2 _ (by omega), c1]
      have c2' : mst M1 r 3 (nI 0) (t + 2) j = nI e.2 := by rw [mst_n (by omega), r2 _ (by omega), c2]
      have f1 : M2 r 1 = nI j := by rw [s3 _ (by omega), mst_at, upd_n (by omega), r2 _ (by omega), h1]
      have hPL : PL (mst M2 r 1 (nI (j + 1))) t l := by
        unfold PL
        rw [mst_n (by omega), mst_n (by omega), mst_n (by omega), hP2 _ (Or.inl rfl), hP2 _ (Or.inr (Or.inl rfl)), hP2 _ (Or.inr (Or.inr rfl))]
        exact hP
      obtain ⟨M', t1, t2, t3⟩ := ih (j + 1) (by omega) k'' (mst M2 r 1 (nI (j + 1))) _ _ (by omega) (s2.kept fun b b1 b2 => mst_n (by omega)) hPL (by rw [mst_at, upd_at])
      refine ⟨M', ?_, ?_, fun b hb => by rw [t3 b hb, mst_n (by omega), s3 b (by omega), mst_n (by omega), r2 b (by omega)]⟩
      · simp (disch := omega) only [li_0, li_1, li_2, li_3, li_4, li_5, li_6, li_7, li_8, li_9, li_10, li_11, li_12, li_13, li_14, li_15, li_16, li_17, li_18, li_19, li_20, li_21, li_22, li_23, li_24, li_25, li_26, li_27, li_28, li_29, li_30, li_31, li_32, li_33, li_34, li_35, li_36, li_37, li_38, li_39, li_40, li_41, li_42, li_43, li_44, li_45, li_46, li_47, li_48, li_49, li_50, li_51, li_52, li_53, li_54, li_55, li_56, li_57, li_58, li_59, li_60, li_61, li_62, li_63, li_71, li_72, li_73, li_81, li_82, li_97, li_98, li_99, li_100, li_101, li_102, li_105, li_110, li_111, li_116, li_117, li_126, li_161, li_233, li_932, li_1165, li_10000, li_100000, n_lt_t, n_lt_f, n_eq_t, n_eq_f, nI_add, n_sub, n_mul, n_ix, n_ckd, bnd_e, obn_s, zrk_0, zrk_1, zrk_b, zb_0, zb_1, zb_b, if_true, if_false, Bool.toNat_true, Bool.toNat_false, b0, b1, Bool.false_eq_true, Bool.true_eq_false, hP.1, c1, c2, r1, bnd_e]
        simp (disch := omega) only [li_0, li_1, li_2, li_3, li_4, li_5, li_6, li_7, li_8, li_9, li_10, li_11, li_12, li_13, li_14, li_15, li_16, li_17, li_18, li_19, li_20, li_21, li_22, li_23, li_24, li_25, li_26, li_27, li_28, li_29, li_30, li_31, li_32, li_33, li_34, li_35, li_36, li_37, li_38, li_39, li_40, li_41, li_42, li_43, li_44, li_45, li_46, li_47, li_48, li_49, li_50, li_51, li_52, li_53, li_54, li_55, li_56, li_57, li_58, li_59, li_60, li_61, li_62, li_63, li_71, li_72, li_73, li_81, li_82, li_97, li_98, li_99, li_100, li_101, li_102, li_105, li_110, li_111, li_116, li_117, li_126, li_161, li_233, li_932, li_1165, li_10000, li_100000, n_lt_t, n_lt_f, n_eq_t, n_eq_f, nI_add, n_sub, n_mul, n_ix, n_ckd, bnd_e, obn_s, zrk_0, zrk_1, zrk_b, zb_0, zb_1, zb_b, if_true, if_false, Bool.toNat_true, Bool.toNat_false, b0, b1, Bool.false_eq_true, Bool.true_eq_false, mrow_n, mrow_at, mst_n, mst_at, upd_n, upd_at, mst_mrow, c1', c2', s1, f1, t1]
      · rw [t2]
        rw [runP_c, if_pos g, show j + 1 + runP n k (l.drop (j + 1)) (mkS S q e.1 e.2) (mkq q) = j + (1 + runP n k (l.drop (j + 1)) (mkS S q e.1 e.2) (mkq q)) by omega]
    · refine ⟨mst M1 r 3 (nI (rfS S n k e.1 e.2)), ?_, ?_, fun b hb => by rw [mst_n (by omega), r2 b (by omega)]⟩
      · simp (disch := omega) only [li_0, li_1, li_2, li_3, li_4, li_5, li_6, li_7, li_8, li_9, li_10, li_11, li_12, li_13, li_14, li_15, li_16, li_17, li_18, li_19, li_20, li_21, li_22, li_23, li_24, li_25, li_26, li_27, li_28, li_29, li_30, li_31, li_32, li_33, li_34, li_35, li_36, li_37, li_38, li_39, li_40, li_41, li_42, li_43, li_44, li_45, li_46, li_47, li_48, li_49, li_50, li_51, li_52, li_53, li_54, li_55, li_56, li_57, li_58, li_59, li_60, li_61, li_62, li_63, li_71, li_72, li_73, li_81, li_82, li_97, li_98, li_99, li_100, li_101, li_102, li_105, li_110, li_111, li_116, li_117, li_126, li_161, li_233, li_932, li_1165, li_10000, li_100000, n_lt_t, n_lt_f, n_eq_t, n_eq_f, nI_add, n_sub, n_mul, n_ix, n_ckd, bnd_e, obn_s, zrk_0, zrk_1, zrk_b, zb_0, zb_1, zb_b, if_true, if_false, Bool.toNat_true, Bool.toNat_false, b0, b1, Bool.false_eq_true, Bool.true_eq_false, hP.1, c1, c2, r1, mrow_n, mrow_at, mst_n, mst_at, upd_n, upd_at, mst_mrow]
      · rw [runP_c, if_neg g, mst_at, upd_n (by omega), r2 _ (by omega), h1]
        rfl
variable {h : List Sm} {t : List Int32}
theorem P.draft {M2 : Mm} (H : P M X S h t) (g : ∀ b, (b < X + 197 ∨ X + 233 ≤ b) → M2 b = M b) : P M2 X S h t :=
  H.keep (fun b hb => g b (by omega)) (by rw [g _ (by omega)]) (g _ (by omega))
def aPl (S : Sm) (x y : Int32) : Int32 :=
  if secB S x = true then
    (if y < 0 then -1 else if y < nI (plL S (kn S) (ix x)).length then nI (100 * ((plL S (kn S) (ix x)).getD (ix y) (0, 0)).1 + ((plL S (kn S) (ix x)).getD (ix y) (0, 0)).2) else -4)
  else -1
theorem t_plan (H : P M X S h t) (x y : Int32) : Ask X S h t (f_X8_plan X M x y) M (aPl S x y) := by
  have h1 := H.1
  have hn := h1.nlow
  have hk := h1.klow
  unfold aPl
  by_cases g : secB S x = true
  · rw [if_pos g]
    obtain ⟨p, hp, rfl⟩ := secP h1 g
    rw [show ix (nI p) = p from n_ix (by omega)]
    by_cases g0 : y < 0
    · rw [if_pos g0]
      refine ⟨M, ?_, H, Fr.rf⟩
      show f_X8_plan X M _ _ = _
      unfold f_X8_plan b_X8_plan_15
      rw [hasSec_ok h1, g, obn_s, if_neg (by decide), if_pos g0]
    · rw [if_neg g0]
      obtain ⟨M1, p1, p2, p3⟩ := drawUp_ok h1 (a := X + 197) (by omega) hp
      have hl := plL_len S (kn S) p hk
      refine ⟨M1, ?_, H.draft fun b hb => p3 b (by omega), fun b hb => p3 b (by omega)⟩
      show f_X8_plan X M _ _ = _
      unfold f_X8_plan
      rw [hasSec_ok h1, g, obn_s, if_neg (by decide), if_neg g0, p1, obn_s, p2.1]
      by_cases g1 : y < nI (plL S (kn S) p).length
      · rw [if_pos g1, if_pos g1]
        obtain ⟨j, hj, rfl⟩ := lt_nat (by omega) g0 g1
        obtain ⟨e, he⟩ : ∃ e, (plL S (kn S) p)[j]? = some e := ⟨_, List.getElem?_eq_getElem hj⟩
        obtain ⟨c1, c2⟩ := p2.2 j e he
        rw [show ix (nI j) = j from n_ix (by omega), List.getD_eq_getElem?_getD, he]
        simp (disch := omega) only [li_0, li_1, li_2, li_3, li_4, li_5, li_6, li_7, li_8, li_9, li_10, li_11, li_12, li_13, li_14, li_15, li_16, li_17, li_18, li_19, li_20, li_21, li_22, li_23, li_24, li_25, li_26, li_27, li_28, li_29, li_30, li_31, li_32, li_33, li_34, li_35, li_36, li_37, li_38, li_39, li_40, li_41, li_42, li_43, li_44, li_45, li_46, li_47, li_48, li_49, li_50, li_51, li_52, li_53, li_54, li_55, li_56, li_57, li_58, li_59, li_60, li_61, li_62, li_63, li_71, li_72, li_73, li_81, li_82, li_97, li_98, li_99, li_100, li_101, li_102, li_105, li_110, li_111, li_116, li_117, li_126, li_161, li_233, li_932, li_1165, li_10000, li_100000, n_lt_t, n_lt_f, n_eq_t, n_eq_f, nI_add, n_sub, n_mul, n_ix, n_ckd, bnd_e, obn_s, zrk_0, zrk_1, zrk_b, zb_0, zb_1, zb_b, if_true, if_false, Bool.toNat_true, Bool.toNat_false, b0, b1, Bool.false_eq_true, Bool.true_eq_false, c1, c2, Option.getD_some]
      · rw [if_neg g1, if_neg g1]
  · have g2 : secB S x = false := by simpa using g
    rw [if_neg g]
    refine ⟨M, ?_, H, Fr.rf⟩
    show f_X8_plan X M _ _ = _
    unfold f_X8_plan b_X8_plan_15
    rw [hasSec_ok h1, g2, obn_s, if_pos (by decide)]
def aCa (S : Sm) (x : Int32) : Int32 := if secB S x = true then nI (runP (nn S) (kn S) (plL S (kn S) (ix x)) S (qn S)) else -1
theorem t_canPlan (H : P M X S h t) (x : Int32) : Ask X S h t (f_X8_canPlan X M x) M (aCa S x) := by
  have h1 := H.1
  have hn := h1.nlow
  have hk := h1.klow
  unfold aCa
  by_cases g : secB S x = true
  · rw [if_pos g]
    obtain ⟨p, hp, rfl⟩ := secP h1 g
    rw [show ix (nI p) = p from n_ix (by omega)]
    obtain ⟨M1, p1, p2, p3⟩ := drawUp_ok h1 (a := X + 197) (by omega) hp
    have h2 : RW M1 (X + 1) S (nn S) (kn S) (qn S) := h1.kept fun b b1 b2 => p3 b (by omega)
    obtain ⟨M2, q1, q2, ⟨q3, -⟩, q4⟩ := begin_ok (r := X + 200) (v := X + 1) (Or.inl (by omega)) h2
    have hl := plL_len S (kn S) p hk
    have hP2 : PL M2 (X + 197) (plL S (kn S) p) := by
      unfold PL
      rw [q4 _ (by omega), q4 _ (by omega), q4 _ (by omega)]
      exact p2
    obtain ⟨M3, t1, t2, t3⟩ := tryP_ok (X + 1) (r := X + 200) (t := X + 197) (by omega) hl (plL_plc hp) (plL S (kn S) p).length 0 (by omega) FU M2 S (qn S) (by show _ < 4000; omega) q2 hP2 q3
    have f3 : ∀ b, (b < X + 197 ∨ X + 233 ≤ b) → M3 b = M b := fun b hb => by rw [t3 b (by omega), q4 b (by omega), p3 b (by omega)]
    rw [List.drop_zero] at t2
    refine ⟨M3, ?_, H.draft f3, fun b hb => f3 b (by omega)⟩
    show f_X8_canPlan X M _ = _
    unfold f_X8_canPlan f_X4_tryPlan
    rw [hasSec_ok h1, g, obn_s, if_neg (by decide), p1, obn_s, q1, obn_s, show (0 : Int32) = nI 0 from rfl, t1, obn_s, t2, Nat.zero_add]
  · have g2 : secB S x = false := by simpa using g
    rw [if_neg g]
    refine ⟨M, ?_, H, Fr.rf⟩
    show f_X8_canPlan X M _ = _
    unfold f_X8_canPlan
    rw [hasSec_ok h1, g2, obn_s, if_pos (by decide)]
end E2
