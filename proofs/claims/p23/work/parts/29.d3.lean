/-! places, refusals, steps; the pool, the clock, the text typed -/
section S3
variable {M : Mm} {X m : Nat}
theorem li_le (S : Sm) (n k : Nat) (A : Nat → Bool) (r : Nat) : liS S n k A r ≤ r + 1 := by
  unfold liS
  have := ag_le S n (lvS S n k) A
  split <;> omega
theorem rf_lt (S : Sm) (n k x p : Nat) : rfS S n k x p < 1000 := by
  have a := li_le S n k (lwS S n k (cCl S p) (onx S n)) 42
  have b := li_le S n k (lwS S n k (cS S) (fun s => onx S n s || s == p)) 62
  unfold rfS
  repeat' split
  all_goals omega
theorem st_keep {S : Sm} {n k x p : Nat} (hn : n ≤ 10) (hp : plc n k x p) : stS S x p 3 = S 3 ∧ ∀ s, s < 10 → aO (stS S x p) s 4 = aO S s 4 ∧ aO (stS S x p) s 6 = aO S s 6 := by
  unfold plc at hp
  unfold stS
  by_cases h2 : x = 2
  · rw [if_pos h2]
    exact ⟨upd_n (by omega), fun s hs => ⟨aO_u (by omega), aO_u (by omega)⟩⟩
  · by_cases h3 : x = 3
    · rw [if_neg h2, if_pos h3]
      exact ⟨upd_n (by omega), fun s hs => ⟨aO_u (by omega), aO_u (by omega)⟩⟩
    · rw [if_neg h2, if_neg h3]
      have hp : p < n := by rw [if_neg (by omega)] at hp; exact hp
      repeat' split
      all_goals exact ⟨upd_n (by omega), fun s hs => ⟨aO_u (by omega), aO_u (by omega)⟩⟩
theorem Tm.mk {S : Sm} {n k q x p : Nat} (W : Wf S n k q) (hx : x < 8) (hp : plc n k x p) (h : Tm S) : Tm (mkS S q x p) := by
  have hn := W.1.2.1
  obtain ⟨e1, e2⟩ := st_keep (S := S) hn hp
  have h2 := h.of e1 e2
  have W2 := W.st hx hp
  show Tm (wrS (stS S x p) q x p)
  exact h2.of (wr_g _ _ _ _ (by omega) (by omega) (by omega)) fun s hs => ⟨wr_O W2 _ _ hs (by omega), wr_O W2 _ _ hs (by omega)⟩
theorem in2 {x : Int32} (h : inB x 0 2 = true) : x = nI 0 ∨ x = nI 1 ∨ x = nI 2 := by
  obtain ⟨s, h1, rfl⟩ := in_of (n := 3) (by omega) h
  rcases (show s = 0 ∨ s = 1 ∨ s = 2 by omega) with e | e | e <;> rw [e]
  · exact Or.inl rfl
  · exact Or.inr (Or.inl rfl)
  · exact Or.inr (Or.inr rfl)
theorem lt_nat {x : Int32} {q : Nat} (hq : q < 1000) (h0 : ¬ x < 0) (h : x < nI q) : ∃ j, j < q ∧ x = nI j := by
  refine in_of (n := q) hq ?_
  unfold inB
  rw [decide_eq_true_eq]
  refine ⟨h0, fun h2 => ?_⟩
  have hq0 : 0 < q := by
    rcases Nat.eq_zero_or_pos q with z | z
    · subst z; exact absurd h h0
    · exact z
  rw [show nI q - nI 1 = nI (q - 1) from n_sub (by omega)] at h2
  rw [Int32.lt_iff_toInt_lt] at h h2
  have e1 : (nI q).toInt = q := by
    show (Int32.ofNat q).toInt = q
    rw [Int32.toInt_ofNat_of_lt (by omega)]
  have e2 : (nI (q - 1)).toInt = (q - 1 : Nat) := by
    show (Int32.ofNat (q - 1)).toInt = (q - 1 : Nat)
    rw [Int32.toInt_ofNat_of_lt (by omega)]
  rw [e1] at h
  rw [e2] at h2
  omega
/-! answers and changes -/
def aRe (S : Sm) (x p : Int32) : Int32 := if (inB x 0 7 && plB S x p) = true then nI (rfS S (nn S) (kn S) (ix x) (ix p)) else -1
def oSt (S : Sm) (x p : Int32) : Int32 × Option Sm :=
  if (inB x 0 7 && plB S x p) = true then
    (if rfS S (nn S) (kn S) (ix x) (ix p) = 0 then (nI (fb_ct (lvS (mkS S (qn S) (ix x) (ix p)) (nn S) (kn S)) 10), some (mkS S (qn S) (ix x) (ix p))) else (-2, none))
  else (-1, none)
def nx (S : Sm) (o : Option Sm) : Sm := o.getD S
def nh (S : Sm) (h : List Sm) (o : Option Sm) : List Sm := match o with
  | none => h
  | some _ => push S h
/-- what a call that may change the wires comes to -/
def Chg (X : Nat) (S : Sm) (h : List Sm) (t : List Int32) (f : OR) (M : Mm) (o : Int32 × Option Sm) : Prop :=
  ∃ M', f = some (o.1, M') ∧ P M' X (nx S o.2) (nh S h o.2) t ∧ Fr X M' M
/-- what a question comes to -/
def Ask (X : Nat) (S : Sm) (h : List Sm) (t : List Int32) (f : OR) (M : Mm) (r : Int32) : Prop :=
  ∃ M', f = some (r, M') ∧ P M' X S h t ∧ Fr X M' M
variable {S : Sm} {h : List Sm} {t : List Int32}
theorem t_refusal (H : P M X S h t) (x p : Int32) : Ask X S h t (f_X8_refusal X M x p) M (aRe S x p) := by
  have h1 := H.1
  have hP := hasPlace_ok h1 x p
  unfold aRe
  by_cases g : (inB x 0 7 && plB S x p) = true
  · have g' := g
    rw [Bool.and_eq_true] at g'
    obtain ⟨x', p', rfl, rfl, hx, hp⟩ := plB_of h1.1 g'.1 g'.2
    obtain ⟨M1, r1, r2⟩ := reason_ok h1 hx hp
    have ep : ix (nI p') = p' := n_ix (by have := h1.nlow; have := h1.klow; unfold plc at hp; split at hp <;> omega)
    refine ⟨M1, ?_, H.scr r2, r2.fr⟩
    show f_X8_refusal X M _ _ = _
    unfold f_X8_refusal b_X8_refusal_25
    rw [hP, g, obn_s, if_neg (by decide), r1, obn_s, if_pos rfl, show ix (nI x') = x' from n_ix (by omega), ep]
  · have g2 : (inB x 0 7 && plB S x p) = false := by simpa using g
    refine ⟨M, ?_, H, Fr.rf⟩
    show f_X8_refusal X M _ _ = _
    unfold f_X8_refusal b_X8_refusal_25
    rw [hP, g2, obn_s, if_pos (by decide)]
    rfl
theorem t_step (H : P M X S h t) (x p : Int32) : Chg X S h t (f_X8_step X M x p) M (oSt S x p) := by
  have h1 := H.1
  have hP := hasPlace_ok h1 x p
  unfold oSt
  by_cases g : (inB x 0 7 && plB S x p) = true
  · have g' := g
    rw [Bool.and_eq_true] at g'
    obtain ⟨x', p', rfl, rfl, hx, hp⟩ := plB_of h1.1 g'.1 g'.2
    obtain ⟨M1, r1, r2⟩ := reason_ok h1 hx hp
    have ep : ix (nI p') = p' := n_ix (by have := h1.nlow; have := h1.klow; unfold plc at hp; split at hp <;> omega)
    have ex : ix (nI x') = x' := n_ix (by omega)
    have rr := rf_lt S (nn S) (kn S) x' p'
    rw [if_pos g, ex, ep]
    by_cases g3 : rfS S (nn S) (kn S) x' p' = 0
    · rw [if_pos g3]
      have H1 := H.scr r2
      obtain ⟨M2, k1, k2, k3⟩ := mutP H1
      have h3 : RW M2 (X + 1) S (nn S) (kn S) (qn S) := H1.1.kept fun b b1 b2 => k2 b (by omega)
      obtain ⟨M3, s1, s2, s3⟩ := make_ok h3 hx hp
      have ct : f_X8_countTrue (X + 1 + 1 + 6) M3 = some (nI (fb_ct (lvS (mkS S (qn S) x' p') (nn S) (kn S)) 10), M3) := countTrue_ok fun i hi => s2.lv hi
      obtain ⟨q1, q2⟩ := k3 M3 _ _ _ _ (fun b hb => s3 b (by omega)) s2 (Tm.mk h1.1 hx hp H.2.2.2.1)
      refine ⟨M3, ?_, q1, q2.tr r2.fr⟩
      show f_X8_step X M _ _ = _
      unfold f_X8_step
      rw [hP, g, obn_s, if_neg (by decide), r1, g3, obn_s, if_pos (show nI 0 = 0 from rfl), k1, obn_s, s1, obn_s, ct, obn_s]
    · rw [if_neg g3]
      have z : ¬ nI (rfS S (nn S) (kn S) x' p') = 0 := by
        rw [show (0 : Int32) = nI 0 from rfl, n_eq (by omega) (by omega)]
        exact g3
      refine ⟨M1, ?_, H.scr r2, r2.fr⟩
      show f_X8_step X M _ _ = _
      unfold f_X8_step
      rw [hP, g, obn_s, if_neg (by decide), r1, obn_s, if_neg z]
  · have g2 : (inB x 0 7 && plB S x p) = false := by simpa using g
    rw [if_neg g]
    refine ⟨M, ?_, H, Fr.rf⟩
    show f_X8_step X M _ _ = _
    unfold f_X8_step
    rw [hP, g2, obn_s, if_pos (by decide)]
theorem t_clear (H : P M X S h t) : ∃ M', f_X8_clearText X M = some (nI t.length, M') ∧ P M' X S h [] ∧ Fr X M' M := by
  obtain ⟨h1, h3, ⟨h4, h5, h6⟩, hT, hTs⟩ := H
  refine ⟨mst M (X + 195) 0 (nI 0), ?_, ⟨h1.kept fun b b1 b2 => mst_n (by omega), h3.kept fun b b1 b2 => mst_n (by omega), ⟨by simp, by rw [mst_at, upd_at]; rfl, fun j hj => by simp at hj⟩, hT, hTs⟩, fun b hb => mst_n (by omega)⟩
  unfold f_X8_clearText
  rw [h5]
  rfl
def oTy (t : List Int32) (x : Int32) : Int32 × List Int32 := if inB x 32 126 = true then (if t.length = 60 then (-3, t) else (nI (t.length + 1), t ++ [x])) else (-1, t)
theorem t_type (H : P M X S h t) (x : Int32) : ∃ M', f_X8_type X M x = some ((oTy t x).1, M') ∧ P M' X S h (oTy t x).2 ∧ Fr X M' M := by
  have H0 := H
  obtain ⟨h1, h3, ⟨h4, h5, h6⟩, hT, hTs⟩ := H
  unfold oTy
  by_cases g : inB x 32 126 = true
  · rw [if_pos g]
    by_cases y : t.length = 60
    · rw [if_pos y]
      refine ⟨M, ?_, H0, Fr.rf⟩
      unfold f_X8_type
      rw [outside_ok, g, Bool.not_true, obn_s, if_pos (by decide), h5, y, if_neg (by decide)]
    · rw [if_neg y]
      refine ⟨mst (mst M (X + 196) t.length x) (X + 195) 0 (nI (t.length + 1)), ?_, ⟨h1.kept fun b b1 b2 => by rw [mst_n (by omega), mst_n (by omega)], h3.kept fun b b1 b2 => by rw [mst_n (by omega), mst_n (by omega)], ⟨by rw [List.length_append]; show t.length + 1 ≤ 60; omega, by rw [mst_at, upd_at, List.length_append]; rfl, fun j hj => ?_⟩, hT, hTs⟩, fun b hb => by rw [mst_n (by omega), mst_n (by omega)]⟩
      · unfold f_X8_type
        rw [outside_ok, g, Bool.not_true, obn_s, if_pos (by decide)]
        simp (disch := omega) only [li_0, li_1, li_2, li_3, li_4, li_5, li_6, li_7, li_8, li_9, li_10, li_11, li_12, li_13, li_14, li_15, li_16, li_17, li_18, li_19, li_20, li_21, li_22, li_23, li_24, li_25, li_26, li_27, li_28, li_29, li_30, li_31, li_32, li_33, li_34, li_35, li_36, li_37, li_38, li_39, li_40, li_41, li_42, li_43, li_44, li_45, li_46, li_47, li_48, li_49, li_50, li_51, li_52, li_53, li_54, li_55, li_56, li_57, li_58, li_59, li_60, li_61, li_62, li_63, li_71, li_72, li_73, li_81, li_82, li_97, li_98, li_99, li_100, li_101, li_102, li_105, li_110, li_111, li_116, li_117, li_126, li_161, li_233, li_932, li_1165, li_10000, li_100000, n_lt_t, n_lt_f, n_eq_t, n_eq_f, nI_add, n_sub, n_mul, n_ix, n_ckd, bnd_e, obn_s, zrk_0, zrk_1, zrk_b, zb_0, zb_1, zb_b, if_true, if_false, Bool.toNat_true, Bool.toNat_false, b0, b1, Bool.false_eq_true, Bool.true_eq_false, h5, mrow_n, mrow_at, mst_n, mst_at, upd_n, upd_at, mst_mrow]
      · have hj : j < t.length + 1 := by simpa using hj
        rw [mst_n (by omega), mst_at, List.getD_eq_getElem?_getD]
        by_cases e : j = t.length
        · rw [e, upd_at, List.getElem?_append_right (Nat.le_refl _), Nat.sub_self]
          rfl
        · rw [upd_n e, h6 j (by omega), List.getElem?_append_left (by omega), List.getD_eq_getElem?_getD]
  · have g2 : inB x 32 126 = false := by simpa using g
    rw [if_neg g]
    refine ⟨M, ?_, H0, Fr.rf⟩
    unfold f_X8_type
    rw [outside_ok, g2, Bool.not_false, obn_s, if_neg (by decide)]
def aLo (S : Sm) (x y : Int32) : Int32 := if x < 0 then -1 else if inB y 0 2 = true then (if x < nI (qn S) then aL S (qn S - 1 - ix x) (ix y) else -4) else -1
theorem t_log (H : P M X S h t) (x y : Int32) : Ask X S h t (f_X8_log X M x y) M (aLo S x y) := by
  obtain ⟨W, hN, hS, ⟨hl0, hl1⟩, hl2, hl3⟩ := H.1
  have hq := W.1.2.2.2.2.2
  unfold aLo
  refine ⟨M, ?_, H, Fr.rf⟩
  show f_X8_log X M _ _ = _
  unfold f_X8_log b_X8_log_13
  by_cases g0 : x < 0
  · rw [if_pos g0, if_pos g0]
  · rw [if_neg g0, if_neg g0]
    by_cases g : inB y 0 2 = true
    · rw [if_pos g, outside_ok, g, Bool.not_true, obn_s, if_pos (by decide), hl1]
      by_cases g1 : x < nI (qn S)
      · obtain ⟨j, hj, rfl⟩ := lt_nat (by omega) g0 g1
        have hx := hl2 (qn S - 1 - j) (by omega)
        rw [if_pos g1, if_pos g1, show ix (nI j) = j from n_ix (by omega)]
        rcases in2 g with e | e | e
        · subst e
          simp (disch := omega) only [li_0, li_1, li_2, li_3, li_4, li_5, li_6, li_7, li_8, li_9, li_10, li_11, li_12, li_13, li_14, li_15, li_16, li_17, li_18, li_19, li_20, li_21, li_22, li_23, li_24, li_25, li_26, li_27, li_28, li_29, li_30, li_31, li_32, li_33, li_34, li_35, li_36, li_37, li_38, li_39, li_40, li_41, li_42, li_43, li_44, li_45, li_46, li_47, li_48, li_49, li_50, li_51, li_52, li_53, li_54, li_55, li_56, li_57, li_58, li_59, li_60, li_61, li_62, li_63, li_71, li_72, li_73, li_81, li_82, li_97, li_98, li_99, li_100, li_101, li_102, li_105, li_110, li_111, li_116, li_117, li_126, li_161, li_233, li_932, li_1165, li_10000, li_100000, n_lt_t, n_lt_f, n_eq_t, n_eq_f, nI_add, n_sub, n_mul, n_ix, n_ckd, bnd_e, obn_s, zrk_0, zrk_1, zrk_b, zb_0, zb_1, zb_b, if_true, if_false, Bool.toNat_true, Bool.toNat_false, b0, b1, Bool.false_eq_true, Bool.true_eq_false, hx.1, hx.2.1, hx.2.2]
        · subst e
          simp (disch := omega) only [li_0, li_1, li_2, li_3, li_4, li_5, li_6, li_7, li_8, li_9, li_10, li_11, li_12, li_13, li_14, li_15, li_16, li_17, li_18, li_19, li_20, li_21, li_22, li_23, li_24, li_25, li_26, li_27, li_28, li_29, li_30, li_31, li_32, li_33, li_34, li_35, li_36, li_37, li_38, li_39, li_40, li_41, li_42, li_43, li_44, li_45, li_46, li_47, li_48, li_49, li_50, li_51, li_52, li_53, li_54, li_55, li_56, li_57, li_58, li_59, li_60, li_61, li_62, li_63, li_71, li_72, li_73, li_81, li_82, li_97, li_98, li_99, li_100, li_101, li_102, li_105, li_110, li_111, li_116, li_117, li_126, li_161, li_233, li_932, li_1165, li_10000, li_100000, n_lt_t, n_lt_f, n_eq_t, n_eq_f, nI_add, n_sub, n_mul, n_ix, n_ckd, bnd_e, obn_s, zrk_0, zrk_1, zrk_b, zb_0, zb_1, zb_b, if_true, if_false, Bool.toNat_true, Bool.toNat_false, b0, b1, Bool.false_eq_true, Bool.true_eq_false, hx.1, hx.2.1, hx.2.2]
        · subst e
          simp (disch := omega) only [li_0, li_1, li_2, li_3, li_4, li_5, li_6, li_7, li_8, li_9, li_10, li_11, li_12, li_13, li_14, li_15, li_16, li_17, li_18, li_19, li_20, li_21, li_22, li_23, li_24, li_25, li_26, li_27, li_28, li_29, li_30, li_31, li_32, li_33, li_34, li_35, li_36, li_37, li_38, li_39, li_40, li_41, li_42, li_43, li_44, li_45, li_46, li_47, li_48, li_49, li_50, li_51, li_52, li_53, li_54, li_55, li_56, li_57, li_58, li_59, li_60, li_61, li_62, li_63, li_71, li_72, li_73, li_81, li_82, li_97, li_98, li_99, li_100, li_101, li_102, li_105, li_110, li_111, li_116, li_117, li_126, li_161, li_233, li_932, li_1165, li_10000, li_100000, n_lt_t, n_lt_f, n_eq_t, n_eq_f, nI_add, n_sub, n_mul, n_ix, n_ckd, bnd_e, obn_s, zrk_0, zrk_1, zrk_b, zb_0, zb_1, zb_b, if_true, if_false, Bool.toNat_true, Bool.toNat_false, b0, b1, Bool.false_eq_true, Bool.true_eq_false, hx.1, hx.2.1, hx.2.2]
      · rw [if_neg g1, if_neg g1]
    · have g2 : inB y 0 2 = false := by simpa using g
      rw [if_neg g, outside_ok, g2, Bool.not_false, obn_s, if_neg (by decide)]
end S3
