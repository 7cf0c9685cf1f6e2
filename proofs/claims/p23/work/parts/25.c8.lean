/-! the class: sections and isolators that come, joining, what the log makes live, what darkens and lights up -/
section CA
variable {w : Nat} {M : Mm} {n k q : Nat} {S : Sm}
/-- a new section's state -/
def nsS (S : Sm) (n t : Nat) (f : Bool) : Sm := fun j => if j = 0 then nI (n + 1) else if 7 + 9 * n ≤ j ∧ j < 16 + 9 * n then (if j = 7 + 9 * n then nI t else if j = 7 + 9 * n + 1 then nI (2 * f.toNat) else if j = 7 + 9 * n + 8 then nI f.toNat else nI 0) else S j
/-- a new isolator's -/
def niS (S : Sm) (k x y : Nat) : Sm := fun j => if j = 1 then nI (k + 1) else if j = 97 + 4 * k then nI x else if j = 97 + 4 * k + 1 then nI y else if j = 97 + 4 * k + 2 then nI 1 else if j = 97 + 4 * k + 3 then nI 1 else S j
theorem ns_O {t : Nat} {f : Bool} {s j : Nat} (hs : s < n) (hj : j < 9) : aO (nsS S n t f) s j = aO S s j := by
  unfold aO nsS
  rw [if_neg (by omega), if_neg (by omega)]
theorem ns_I (hn : n < 10) {t : Nat} {f : Bool} {i j : Nat} : aI (nsS S n t f) i j = aI S i j := by
  unfold aI nsS
  rw [if_neg (by omega), if_neg (by omega)]
theorem ns_L (hn : n < 10) {t : Nat} {f : Bool} {i j : Nat} : aL (nsS S n t f) i j = aL S i j := by
  unfold aL nsS
  rw [if_neg (by omega), if_neg (by omega)]
theorem ns_g {t : Nat} {f : Bool} {j : Nat} (hj : j < 7) (h0 : j ≠ 0) : nsS S n t f j = S j := by
  unfold nsS
  rw [if_neg h0, if_neg (by omega)]
theorem ns_0 {t : Nat} {f : Bool} : aO (nsS S n t f) n 0 = nI t := by
  unfold aO nsS
  rw [if_neg (by omega), if_pos (by omega), if_pos (by omega)]
theorem ns_1 {t : Nat} {f : Bool} : aO (nsS S n t f) n 1 = nI (2 * f.toNat) := by
  unfold aO nsS
  rw [if_neg (by omega), if_pos (by omega), if_neg (by omega), if_pos (by omega)]
theorem ns_8 {t : Nat} {f : Bool} : aO (nsS S n t f) n 8 = nI f.toNat := by
  unfold aO nsS
  rw [if_neg (by omega), if_pos (by omega), if_neg (by omega), if_neg (by omega), if_pos (by omega)]
theorem ns_z {t : Nat} {f : Bool} {j : Nat} (h : 2 ≤ j) (h8 : j < 8) : aO (nsS S n t f) n j = nI 0 := by
  unfold aO nsS
  rw [if_neg (by omega), if_pos (by omega), if_neg (by omega), if_neg (by omega), if_neg (by omega)]
theorem ni_O (hk : k < 16) {x y s j : Nat} (hs : s < 10) (hj : j < 9) : aO (niS S k x y) s j = aO S s j := by
  unfold aO niS
  rw [if_neg (by omega), if_neg (by omega), if_neg (by omega), if_neg (by omega), if_neg (by omega)]
theorem ni_I {x y i j : Nat} (hi : i < k) (hj : j < 4) : aI (niS S k x y) i j = aI S i j := by
  unfold aI niS
  rw [if_neg (by omega), if_neg (by omega), if_neg (by omega), if_neg (by omega), if_neg (by omega)]
theorem ni_L (hk : k < 16) {x y i j : Nat} : aL (niS S k x y) i j = aL S i j := by
  unfold aL niS
  rw [if_neg (by omega), if_neg (by omega), if_neg (by omega), if_neg (by omega), if_neg (by omega)]
theorem ni_g {x y j : Nat} (hj : j < 7) (h0 : j ≠ 1) : niS S k x y j = S j := by
  unfold niS
  rw [if_neg h0, if_neg (by omega), if_neg (by omega), if_neg (by omega), if_neg (by omega)]
theorem ni_0 {x y : Nat} : aI (niS S k x y) k 0 = nI x := by
  unfold aI niS
  rw [if_neg (by omega), if_pos (by omega)]
theorem ni_1 {x y : Nat} : aI (niS S k x y) k 1 = nI y := by
  unfold aI niS
  rw [if_neg (by omega), if_neg (by omega), if_pos (by omega)]
theorem ni_2 {x y : Nat} : aI (niS S k x y) k 2 = nI 1 := by
  unfold aI niS
  rw [if_neg (by omega), if_neg (by omega), if_neg (by omega), if_pos (by omega)]
theorem ni_3 {x y : Nat} : aI (niS S k x y) k 3 = nI 1 := by
  unfold aI niS
  rw [if_neg (by omega), if_neg (by omega), if_neg (by omega), if_neg (by omega), if_pos (by omega)]
theorem Wf.ns (W : Wf S n k q) (hn : n < 10) {t : Nat} (f : Bool) : Wf (nsS S n t f) (n + 1) k q := by
  obtain ⟨⟨e0, hn', e1, hk, e5, hq24⟩, WI, WO, WL⟩ := W
  refine ⟨⟨by unfold nsS; rw [if_pos rfl], by omega, by rw [ns_g (by omega) (by omega), e1], hk, by rw [ns_g (by omega) (by omega), e5], hq24⟩, fun i hi => ?_, fun s hs => ?_, fun j hj => ?_⟩
  · have h := WI i hi
    unfold uS vS cS wS at h ⊢
    rw [ns_I hn, ns_I hn, ns_I hn, ns_I hn]
    exact ⟨⟨h.1.1, by omega⟩, ⟨h.2.1.1, by omega⟩, h.2.2⟩
  · by_cases g : s < n
    · have h := WO s g
      unfold fS bS at h ⊢
      rw [ns_O g (by omega), ns_O g (by omega), ns_O g (by omega), ns_O g (by omega), ns_O g (by omega)]
      exact h
    · rw [show s = n by omega]
      unfold fS bS
      rw [ns_1, ns_z (by omega) (by omega), ns_z (by omega) (by omega), ns_z (by omega) (by omega), ns_8]
      cases f <;> decide
  · have h := WL j hj
    unfold kS pS at h ⊢
    rw [ns_L hn, ns_L hn]
    refine ⟨h.1, h.2.1, ?_⟩
    have h4 := h.2.2
    split at h4
    · rename_i g; rw [if_pos g]; exact h4
    · rename_i g; rw [if_neg g]; omega
theorem Wf.ni (W : Wf S n k q) (hk : k < 16) {x y : Nat} (hx : x < n) (hy : y < n) : Wf (niS S k x y) n (k + 1) q := by
  obtain ⟨⟨e0, hn, e1, hk', e5, hq24⟩, WI, WO, WL⟩ := W
  refine ⟨⟨by rw [ni_g (by omega) (by omega), e0], hn, by unfold niS; rw [if_pos rfl], by omega, by rw [ni_g (by omega) (by omega), e5], hq24⟩, fun i hi => ?_, fun s hs => ?_, fun j hj => ?_⟩
  · by_cases g : i < k
    · have h := WI i g
      unfold uS vS cS wS at h ⊢
      rw [ni_I g (by omega), ni_I g (by omega), ni_I g (by omega), ni_I g (by omega)]
      exact h
    · rw [show i = k by omega]
      unfold uS vS cS wS
      rw [ni_0, ni_1, ni_2, ni_3, show ix (nI x) = x from n_ix (by omega), show ix (nI y) = y from n_ix (by omega)]
      exact ⟨⟨rfl, hx⟩, ⟨rfl, hy⟩, by decide, by decide⟩
  · have h := WO s hs
    unfold fS bS at h ⊢
    rw [ni_O hk (by omega) (by omega), ni_O hk (by omega) (by omega), ni_O hk (by omega) (by omega), ni_O hk (by omega) (by omega), ni_O hk (by omega) (by omega)]
    exact h
  · have h := WL j hj
    unfold kS pS at h ⊢
    rw [ni_L hk, ni_L hk]
    refine ⟨h.1, h.2.1, ?_⟩
    have h4 := h.2.2
    split at h4
    · rename_i g; rw [if_pos g]; omega
    · rename_i g; rw [if_neg g]; exact h4
theorem zb_01 (x : Int32) : zb x = nI 0 ∨ zb x = nI 1 := by
  unfold zb
  have := pk_and x (m := 1) 1 (by decide)
  rw [this]
  have h2 : x.toBitVec.toNat % 2 ^ 1 < 2 := Nat.mod_lt _ (by decide)
  rcases (show x.toBitVec.toNat % 2 ^ 1 = 0 ∨ x.toBitVec.toNat % 2 ^ 1 = 1 by omega) with h | h
  · exact Or.inl (by rw [h])
  · exact Or.inr (by rw [h])
theorem setFeeder0 {a n k : Nat} {f u v : Nat → Nat} {c : Nat → Bool} {s x : Nat} {M : Mm} (hn : n ≤ 10) (hs : s < n) (hB2 : nB (mst M (a + 1) s (nI x)) a n k f u v c) (hL : nL M a n k u v c) (hz : ∀ s, n ≤ s → s < 10 → zb (M (a + 6) s) = nI 0) :
    ∃ M', f_X2_setFeeder a M (nI s) (nI x) = some (nI 0, M') ∧ nN M' a n k f u v c ∧ ∀ b, b ≠ a + 1 → b ≠ a + 6 → M' b = M b := by
  have hL2 : nL (mst M (a + 1) s (nI x)) a n k u v c := by
    obtain ⟨lo, hlo⟩ := hL
    exact ⟨lo, fun t ht => by rw [mst_n (by omega)]; exact hlo t ht⟩
  obtain ⟨g, h1, h2⟩ := feed_ok hB2 hL2 (fun t h1 h2 => by rw [mst_n (by omega)]; exact hz t h1 h2)
  refine ⟨mrow (mst M (a + 1) s (nI x)) (a + 6) g, ?_, ⟨nB_kept hB2 (mrow_n (by omega)) (mrow_n (by omega)) (mrow_n (by omega)) (mrow_n (by omega)) (mrow_n (by omega)), ?_, ?_⟩, fun b b1 b2 => ?_⟩
  · unfold f_X2_setFeeder
    simp (disch := omega) only [li_0, li_1, li_2, li_3, li_4, li_5, li_6, li_7, li_8, li_9, li_10, li_11, li_12, li_13, li_14, li_15, li_16, li_17, li_18, li_19, li_20, li_21, li_22, li_23, li_24, li_25, li_26, li_27, li_28, li_29, li_30, li_31, li_32, li_33, li_34, li_35, li_36, li_37, li_38, li_39, li_40, li_41, li_42, li_43, li_44, li_45, li_46, li_47, li_48, li_49, li_50, li_51, li_52, li_53, li_54, li_55, li_56, li_57, li_58, li_59, li_60, li_61, li_62, li_63, li_71, li_72, li_73, li_81, li_82, li_97, li_98, li_99, li_100, li_101, li_102, li_105, li_110, li_111, li_116, li_117, li_126, li_161, li_233, li_932, li_1165, li_10000, li_100000, n_lt_t, n_lt_f, n_eq_t, n_eq_f, nI_add, n_sub, n_mul, n_ix, n_ckd, bnd_e, obn_s, zrk_0, zrk_1, zrk_b, zb_0, zb_1, zb_b, if_true, if_false, Bool.toNat_true, Bool.toNat_false, b0, b1, Bool.false_eq_true, Bool.true_eq_false, h1]
  · obtain ⟨lo, hlo⟩ := hL2
    exact ⟨lo, fun t ht => by rw [mrow_n (by omega)]; exact hlo t ht⟩
  · intro t ht
    rw [mrow_at]
    exact h2 t ht
  · rw [mrow_n b2, mst_n b1]
theorem addSec_ok (h : RW M w S n k q) (hn : n < 10) {t : Nat} (f : Bool) : ∃ M', f_X7_addSection w M (nI t) (nI (2 * f.toNat)) = some (nI n, M') ∧ RW M' w (nsS S n t f) (n + 1) k q ∧ ∀ b, (b < w + 1 ∨ w + 24 ≤ b) → M' b = M b := by
  obtain ⟨W, hN, hS, hL⟩ := id h
  obtain ⟨⟨⟨hn', hk, e0, e1⟩, hF, hI⟩, ⟨lo, hlo⟩, hV⟩ := id hN
  have hm : mst (mst (mst (mst M (w + 1) 0 (nI (n + 1))) (w + 8 + 1) n (nI t)) (w + 16 + 4) n (nI (2 * f.toNat))) (w + 1 + 5) n (nI n) = mst (mst (mst (mst M (w + 1) 0 (nI (n + 1))) (w + 8 + 1) n (nI t)) (w + 16 + 4) n (nI (2 * f.toNat))) (w + 1 + 5) n (nI n) := rfl
  generalize hM1 : mst (mst (mst (mst M (w + 1) 0 (nI (n + 1))) (w + 8 + 1) n (nI t)) (w + 16 + 4) n (nI (2 * f.toNat))) (w + 1 + 5) n (nI n) = M1 at hm
  have k1 : ∀ b, b ≠ w + 1 → b ≠ w + 8 + 1 → b ≠ w + 16 + 4 → b ≠ w + 1 + 5 → M1 b = M b := fun b b1 b2 b3 b4 => by rw [← hM1, mst_n b4, mst_n b3, mst_n b2, mst_n b1]
  have r0 : M1 (w + 1) = upd (M (w + 1)) 0 (nI (n + 1)) := by rw [← hM1]; simp (disch := omega) only [mrow_n, mrow_at, mst_n, mst_at, upd_n, upd_at, mst_mrow]
  have r1 : M1 (w + 8 + 1) = upd (M (w + 8 + 1)) n (nI t) := by rw [← hM1]; simp (disch := omega) only [mrow_n, mrow_at, mst_n, mst_at, upd_n, upd_at, mst_mrow]
  have r2 : M1 (w + 16 + 4) = upd (M (w + 16 + 4)) n (nI (2 * f.toNat)) := by rw [← hM1]; simp (disch := omega) only [mrow_n, mrow_at, mst_n, mst_at, upd_n, upd_at, mst_mrow]
  have r3 : M1 (w + 1 + 5) = upd (M (w + 1 + 5)) n (nI n) := by rw [← hM1]; simp (disch := omega) only [mrow_n, mrow_at, mst_n, mst_at, upd_n, upd_at, mst_mrow]
  have cS' : ∀ i, i < k → uS (nsS S n t f) i = uS S i ∧ vS (nsS S n t f) i = vS S i ∧ cS (nsS S n t f) i = cS S i := fun i hi => by
    unfold uS vS cS
    rw [ns_I hn, ns_I hn, ns_I hn]
    exact ⟨rfl, rfl, rfl⟩
  have hub : ∀ i, i < k → uS S i < n ∧ vS S i < n := fun i hi => ⟨(hI i hi).1.2, (hI i hi).2.1.2⟩
  have hB2 : nB (mst M1 (w + 1 + 1) n (nI (2 * f.toNat))) (w + 1) (n + 1) k (fS (nsS S n t f)) (uS (nsS S n t f)) (vS (nsS S n t f)) (cS (nsS S n t f)) := by
    refine ⟨⟨by omega, hk, ?_, ?_⟩, fun s hs => ?_, fun i hi => ?_⟩
    · rw [mst_n (by omega), r0, upd_at]
    · rw [mst_n (by omega), r0, upd_n (by omega), e1]
    · rw [mst_at]
      by_cases g : s = n
      · subst g
        rw [upd_at]
        unfold fS
        rw [ns_1, show ix (nI (2 * f.toNat)) = 2 * f.toNat from n_ix (by cases f <;> decide)]
        exact ⟨rfl, by cases f <;> decide⟩
      · rw [upd_n g, k1 _ (by omega) (by omega) (by omega) (by omega)]
        unfold fS
        rw [ns_O (by omega) (by omega)]
        exact hF s (by omega)
    · obtain ⟨g1, g2, g3⟩ := cS' i hi
      rw [mst_n (by omega), mst_n (by omega), mst_n (by omega), g1, g2, g3, k1 _ (by omega) (by omega) (by omega) (by omega), k1 _ (by omega) (by omega) (by omega) (by omega), k1 _ (by omega) (by omega) (by omega) (by omega)]
      obtain ⟨h1, h2, h3⟩ := hI i hi
      exact ⟨⟨h1.1, by omega⟩, ⟨h2.1, by omega⟩, h3⟩
  have hL2 : nL M1 (w + 1) (n + 1) k (uS (nsS S n t f)) (vS (nsS S n t f)) (cS (nsS S n t f)) := by
    refine ⟨fun s => if s = n then n else lo s, fun s hs => ?_⟩
    rw [r3]
    by_cases g : s = n
    · subst g
      simp only [upd_at, if_true]
      refine ⟨trivial, Nat.le_refl _, cn_rf _, fun y hy => ?_⟩
      have hy := (cn_c cS').mp hy
      rw [show y = s from hy (fun x => x = s) rfl (fun i hi _ => by
        have := hub i hi
        constructor <;> intro e <;> omega)]
      exact Nat.le_refl _
    · simp only [upd_n g, if_neg g]
      obtain ⟨h1, h2, h3, h4⟩ := hlo s (by omega)
      exact ⟨h1, h2, (cn_c cS').mpr h3, fun y hy => h4 y ((cn_c cS').mp hy)⟩
  obtain ⟨M', p1, p2, p3⟩ := setFeeder0 (by omega) (by omega) hB2 hL2 (fun s h1 h2 => by
    rw [k1 _ (by omega) (by omega) (by omega) (by omega)]
    exact nN_live0 hN s (by omega) h2)
  refine ⟨M', ?_, ⟨W.ns hn f, p2, ⟨?_, fun s hs => ?_, fun s h1 h2 => ?_⟩, ⟨?_, fun j hj => ?_, fun s hs => ?_, fun i hi => ?_⟩⟩, fun b hb => by rw [p3 b (by omega) (by omega), k1 b (by omega) (by omega) (by omega) (by omega)]⟩
  · unfold f_X7_addSection
    have hf : f.toNat ≤ 1 := by cases f <;> decide
    simp (disch := omega) only [li_0, li_1, li_2, li_3, li_4, li_5, li_6, li_7, li_8, li_9, li_10, li_11, li_12, li_13, li_14, li_15, li_16, li_17, li_18, li_19, li_20, li_21, li_22, li_23, li_24, li_25, li_26, li_27, li_28, li_29, li_30, li_31, li_32, li_33, li_34, li_35, li_36, li_37, li_38, li_39, li_40, li_41, li_42, li_43, li_44, li_45, li_46, li_47, li_48, li_49, li_50, li_51, li_52, li_53, li_54, li_55, li_56, li_57, li_58, li_59, li_60, li_61, li_62, li_63, li_71, li_72, li_73, li_81, li_82, li_97, li_98, li_99, li_100, li_101, li_102, li_105, li_110, li_111, li_116, li_117, li_126, li_161, li_233, li_932, li_1165, li_10000, li_100000, n_lt_t, n_lt_f, n_eq_t, n_eq_f, nI_add, n_sub, n_mul, n_ix, n_ckd, bnd_e, obn_s, zrk_0, zrk_1, zrk_b, zb_0, zb_1, zb_b, if_true, if_false, Bool.toNat_true, Bool.toNat_false, b0, b1, Bool.false_eq_true, Bool.true_eq_false, e0]
    rw [hM1, p1, obn_s]
  · rw [p3 _ (by omega) (by omega), k1 _ (by omega) (by omega) (by omega) (by omega), ns_g (by omega) (by omega), ns_g (by omega) (by omega), ns_g (by omega) (by omega)]
    exact hS.1
  · rw [p3 _ (by omega) (by omega), p3 (w + 8 + 2) (by omega) (by omega), p3 (w + 8 + 3) (by omega) (by omega), p3 (w + 8 + 4) (by omega) (by omega), p3 (w + 8 + 5) (by omega) (by omega), p3 (w + 8 + 6) (by omega) (by omega), p3 (w + 8 + 7) (by omega) (by omega)]
    rw [r1, k1 (w + 8 + 2) (by omega) (by omega) (by omega) (by omega), k1 (w + 8 + 3) (by omega) (by omega) (by omega) (by omega), k1 (w + 8 + 4) (by omega) (by omega) (by omega) (by omega), k1 (w + 8 + 5) (by omega) (by omega) (by omega) (by omega), k1 (w + 8 + 6) (by omega) (by omega) (by omega) (by omega), k1 (w + 8 + 7) (by omega) (by omega) (by omega) (by omega)]
    by_cases g : s = n
    · subst g
      obtain ⟨g1, g2, g3, g4⟩ := hS.2.2 s (Nat.le_refl _) (by omega)
      unfold bS
      rw [upd_at, ns_0, ns_z (j := 2) (by omega) (by omega), ns_z (j := 3) (by omega) (by omega), ns_z (j := 4) (by omega) (by omega), ns_z (j := 7) (by omega) (by omega), g1, g2, g3, g4]
      refine ⟨rfl, by decide, by decide, by decide, fun h => ?_, rfl⟩
      exact absurd h (by decide)
    · have hs' : s < n := by omega
      unfold bS
      rw [upd_n g, ns_O hs' (by omega), ns_O hs' (by omega), ns_O hs' (by omega), ns_O hs' (by omega), ns_O hs' (by omega), ns_O hs' (by omega), ns_O hs' (by omega)]
      exact hS.2.1 s hs'
  · rw [p3 (w + 8 + 2) (by omega) (by omega), p3 (w + 8 + 3) (by omega) (by omega), p3 (w + 8 + 4) (by omega) (by omega), p3 (w + 8 + 7) (by omega) (by omega)]
    rw [k1 (w + 8 + 2) (by omega) (by omega) (by omega) (by omega), k1 (w + 8 + 3) (by omega) (by omega) (by omega) (by omega), k1 (w + 8 + 4) (by omega) (by omega) (by omega) (by omega), k1 (w + 8 + 7) (by omega) (by omega) (by omega) (by omega)]
    exact hS.2.2 s (by omega) h2
  · rw [p3 _ (by omega) (by omega), k1 _ (by omega) (by omega) (by omega) (by omega), ns_g (by omega) (by omega)]
    exact hL.1
  · rw [p3 _ (by omega) (by omega), p3 (w + 16 + 2) (by omega) (by omega), p3 (w + 16 + 3) (by omega) (by omega), k1 _ (by omega) (by omega) (by omega) (by omega), k1 (w + 16 + 2) (by omega) (by omega) (by omega) (by omega), k1 (w + 16 + 3) (by omega) (by omega) (by omega) (by omega), ns_L hn, ns_L hn, ns_L hn]
    exact hL.2.1 j hj
  · rw [p3 _ (by omega) (by omega), r2]
    unfold bS
    by_cases g : s = n
    · subst g
      rw [upd_at, ns_8]
      cases f <;> decide
    · rw [upd_n g, ns_O (by omega) (by omega)]
      exact hL.2.2.1 s (by omega)
  · rw [p3 _ (by omega) (by omega), k1 _ (by omega) (by omega) (by omega) (by omega)]
    unfold wS
    rw [ns_I hn]
    exact hL.2.2.2 i hi
theorem addIso_ok (h : RW M w S n k q) (hk : k < 16) {x y : Nat} (hx : x < n) (hy : y < n) : ∃ M', f_X7_addIsolator w M (nI x) (nI y) = some (nI k, M') ∧ RW M' w (niS S k x y) n (k + 1) q ∧ ∀ b, (b < w + 1 ∨ w + 24 ≤ b) → M' b = M b := by
  obtain ⟨W, hN, hS, hL⟩ := id h
  obtain ⟨⟨⟨hn, hk', e0, e1⟩, hF, hI⟩, -, hV⟩ := id hN
  generalize hM1 : mst (mst (mst (mst M (w + 1) 1 (nI (k + 1))) (w + 1 + 2) k (nI x)) (w + 1 + 3) k (nI y)) (w + 16 + 5) k (nI 1) = M1
  have k1 : ∀ b, b ≠ w + 1 → b ≠ w + 1 + 2 → b ≠ w + 1 + 3 → b ≠ w + 16 + 5 → M1 b = M b := fun b b1 b2 b3 b4 => by rw [← hM1, mst_n b4, mst_n b3, mst_n b2, mst_n b1]
  have r0 : M1 (w + 1) = upd (M (w + 1)) 1 (nI (k + 1)) := by rw [← hM1]; simp (disch := omega) only [mrow_n, mrow_at, mst_n, mst_at, upd_n, upd_at, mst_mrow]
  have r1 : M1 (w + 1 + 2) = upd (M (w + 1 + 2)) k (nI x) := by rw [← hM1]; simp (disch := omega) only [mrow_n, mrow_at, mst_n, mst_at, upd_n, upd_at, mst_mrow]
  have r2 : M1 (w + 1 + 3) = upd (M (w + 1 + 3)) k (nI y) := by rw [← hM1]; simp (disch := omega) only [mrow_n, mrow_at, mst_n, mst_at, upd_n, upd_at, mst_mrow]
  have r3 : M1 (w + 16 + 5) = upd (M (w + 16 + 5)) k (nI 1) := by rw [← hM1]; simp (disch := omega) only [mrow_n, mrow_at, mst_n, mst_at, upd_n, upd_at, mst_mrow]
  have zz : ∀ z : Int32, zb z = nI (decide (zb z = nI 1)).toNat := fun z => by
    rcases zb_01 z with e | e <;> rw [e] <;> decide
  have hu : ∀ i, i < k + 1 → uS (niS S k x y) i = (if i = k then x else uS S i) ∧ vS (niS S k x y) i = (if i = k then y else vS S i) ∧ cS (niS S k x y) i = (if i = k then true else cS S i) := fun i hi => by
    unfold uS vS cS
    by_cases g : i = k
    · subst g
      rw [ni_0, ni_1, ni_2, if_pos rfl, if_pos rfl, if_pos rfl, show ix (nI x) = x from n_ix (by omega), show ix (nI y) = y from n_ix (by omega)]
      exact ⟨rfl, rfl, by decide⟩
    · rw [ni_I (by omega) (by omega), ni_I (by omega) (by omega), ni_I (by omega) (by omega), if_neg g, if_neg g, if_neg g]
      exact ⟨rfl, rfl, rfl⟩
  have hB : nB M1 (w + 1) n (k + 1) (fS S) (uS (niS S k x y)) (vS (niS S k x y)) (fun i => if i = k then decide (zb (M (w + 1 + 4) k) = nI 1) else cS S i) := by
    refine ⟨⟨hn, by omega, ?_, ?_⟩, fun s hs => ?_, fun i hi => ?_⟩
    · rw [r0, upd_n (by omega), e0]
    · rw [r0, upd_at]
    · rw [k1 _ (by omega) (by omega) (by omega) (by omega)]
      exact hF s hs
    · obtain ⟨g1, g2, -⟩ := hu i hi
      rw [r1, r2, k1 _ (by omega) (by omega) (by omega) (by omega), g1, g2]
      by_cases g : i = k
      · subst g
        simp only [upd_at, if_true]
        exact ⟨⟨trivial, hx⟩, ⟨trivial, hy⟩, zz _⟩
      · simp only [upd_n g, if_neg g]
        exact hI i (by omega)
  obtain ⟨M', p1, p2, p3⟩ := setIso_ok hB (fun s h1 h2 => by
    rw [k1 _ (by omega) (by omega) (by omega) (by omega)]
    exact nN_live0 hN s h1 h2) (b := true) (show k < k + 1 by omega)
  have hN' : nN M' (w + 1) n (k + 1) (fS (niS S k x y)) (uS (niS S k x y)) (vS (niS S k x y)) (cS (niS S k x y)) := by
    refine nN_c (fun s hs => ?_) (fun i hi => ⟨rfl, rfl, ?_⟩) p2
    · unfold fS; rw [ni_O hk (by omega) (by omega)]
    · rw [(hu i hi).2.2]
      by_cases g : i = k
      · rw [if_pos g, if_pos g]
      · rw [if_neg g, if_neg g, if_neg g]
  refine ⟨M', ?_, ⟨W.ni hk hx hy, hN', ?_, ⟨?_, fun j hj => ?_, fun s hs => ?_, fun i hi => ?_⟩⟩, fun b hb => by rw [p3 b (by omega) (by omega) (by omega), k1 b (by omega) (by omega) (by omega) (by omega)]⟩
  · unfold f_X7_addIsolator
    simp (disch := omega) only [li_0, li_1, li_2, li_3, li_4, li_5, li_6, li_7, li_8, li_9, li_10, li_11, li_12, li_13, li_14, li_15, li_16, li_17, li_18, li_19, li_20, li_21, li_22, li_23, li_24, li_25, li_26, li_27, li_28, li_29, li_30, li_31, li_32, li_33, li_34, li_35, li_36, li_37, li_38, li_39, li_40, li_41, li_42, li_43, li_44, li_45, li_46, li_47, li_48, li_49, li_50, li_51, li_52, li_53, li_54, li_55, li_56, li_57, li_58, li_59, li_60, li_61, li_62, li_63, li_71, li_72, li_73, li_81, li_82, li_97, li_98, li_99, li_100, li_101, li_102, li_105, li_110, li_111, li_116, li_117, li_126, li_161, li_233, li_932, li_1165, li_10000, li_100000, n_lt_t, n_lt_f, n_eq_t, n_eq_f, nI_add, n_sub, n_mul, n_ix, n_ckd, bnd_e, obn_s, zrk_0, zrk_1, zrk_b, zb_0, zb_1, zb_b, if_true, if_false, Bool.toNat_true, Bool.toNat_false, b0, b1, Bool.false_eq_true, Bool.true_eq_false] at p1
    simp (disch := omega) only [li_0, li_1, li_2, li_3, li_4, li_5, li_6, li_7, li_8, li_9, li_10, li_11, li_12, li_13, li_14, li_15, li_16, li_17, li_18, li_19, li_20, li_21, li_22, li_23, li_24, li_25, li_26, li_27, li_28, li_29, li_30, li_31, li_32, li_33, li_34, li_35, li_36, li_37, li_38, li_39, li_40, li_41, li_42, li_43, li_44, li_45, li_46, li_47, li_48, li_49, li_50, li_51, li_52, li_53, li_54, li_55, li_56, li_57, li_58, li_59, li_60, li_61, li_62, li_63, li_71, li_72, li_73, li_81, li_82, li_97, li_98, li_99, li_100, li_101, li_102, li_105, li_110, li_111, li_116, li_117, li_126, li_161, li_233, li_932, li_1165, li_10000, li_100000, n_lt_t, n_lt_f, n_eq_t, n_eq_f, nI_add, n_sub, n_mul, n_ix, n_ckd, bnd_e, obn_s, zrk_0, zrk_1, zrk_b, zb_0, zb_1, zb_b, if_true, if_false, Bool.toNat_true, Bool.toNat_false, b0, b1, Bool.false_eq_true, Bool.true_eq_false, e1]
    rw [hM1, p1, obn_s]
  · refine sB_c (ni_g (by omega) (by omega)) (ni_g (by omega) (by omega)) (ni_g (by omega) (by omega)) (fun s hs j hj _ => ni_O hk (by omega) (by omega)) (sB_kept (fun b h1 h2 => ?_) hS)
    rw [p3 b (by omega) (by omega) (by omega), k1 b (by omega) (by omega) (by omega) (by omega)]
  · rw [p3 _ (by omega) (by omega) (by omega), k1 _ (by omega) (by omega) (by omega) (by omega), ni_g (by omega) (by omega)]
    exact hL.1
  · rw [p3 _ (by omega) (by omega) (by omega), p3 (w + 16 + 2) (by omega) (by omega) (by omega), p3 (w + 16 + 3) (by omega) (by omega) (by omega), k1 _ (by omega) (by omega) (by omega) (by omega), k1 (w + 16 + 2) (by omega) (by omega) (by omega) (by omega), k1 (w + 16 + 3) (by omega) (by omega) (by omega) (by omega), ni_L hk, ni_L hk, ni_L hk]
    exact hL.2.1 j hj
  · rw [p3 _ (by omega) (by omega) (by omega), k1 _ (by omega) (by omega) (by omega) (by omega)]
    unfold bS
    rw [ni_O hk (by omega) (by omega)]
    exact hL.2.2.1 s hs
  · rw [p3 _ (by omega) (by omega) (by omega), r3]
    unfold wS
    by_cases g : i = k
    · subst g
      rw [upd_at, ni_3]
      decide
    · rw [upd_n g, ni_I (by omega) (by omega)]
      exact hL.2.2.2 i (by omega)
end CA

