/-! isolators that come -/
section S5
variable {M : Mm} {X m n k q : Nat} {S : Sm}
theorem lvS_iff (W : Wf S n k q) {s : Nat} (hs : s < n) : lvS S n k s = true ↔ ∃ x, x < n ∧ onx S n x = true ∧ cn k (uS S) (vS S) (cS S) s x := by
  unfold lvS
  rw [Bool.and_eq_true, lvb_iff W _ _ hs]
  simp [hs]
theorem lv_cn (W : Wf S n k q) {s t : Nat} (hs : s < n) (ht : t < n) (h : cn k (uS S) (vS S) (cS S) s t) (hl : lvS S n k s = true) : lvS S n k t = true := by
  obtain ⟨x, h1, h2, h3⟩ := (lvS_iff W hs).mp hl
  exact (lvS_iff W ht).mpr ⟨x, h1, h2, cn_tr (cn_sy h) h3⟩
theorem an_z {A B : Nat → Bool} {j : Nat} : anB S n A B j = false ↔ ∀ s, s < 10 → ¬ (A s = true ∧ B s = false ∧ s < n ∧ nI 0 < aO S s j) := by
  unfold anB
  rw [decide_eq_false_iff_not, Decidable.not_not, fb_ct_zero]
  constructor
  · intro h s hs ⟨h1, h2, h3, h4⟩
    have := h s hs
    rw [h1, h2] at this
    simp [h3, h4] at this
  · intro h s hs
    have := h s hs
    cases hA : A s
    · rfl
    · cases hB : B s
      · by_cases h3 : s < n
        · by_cases h4 : nI 0 < aO S s j
          · exact absurd ⟨hA, hB, h3, h4⟩ this
          · simp [h4]
        · simp [h3]
      · rfl
theorem ag_z {A B : Nat → Bool} : agS S n B A = 0 ↔ anB S n A B 3 = false ∧ anB S n A B 7 = false := by
  unfold agS
  cases anB S n A B 3 <;> cases anB S n A B 7 <;> simp
theorem m_mayJoin (W : Wf (M (m + 1)) n k q) {x y : Nat} (hx : x < n) (hy : y < n) : f_X9_mayJoin m M (nI x) (nI y) = some (nI (!decide (fb_ct (enS (M (m + 1)) n k x y) n ≠ 0)).toNat, M) := by
  have hn := W.1.2.1
  have hk := W.1.2.2.2.1
  generalize hS : M (m + 1) = S at W
  have hub : ∀ i, i < k → uS S i < n ∧ vS S i < n := fun i hi => ⟨(W.2.1 i hi).1.2, (W.2.1 i hi).2.1.2⟩
  generalize hh : its (psS S k (cS S)) 10 (fun s => s == x || s == y) = h
  have hiff : ∀ s, h s = true ↔ cn k (uS S) (vS S) (cS S) x s ∨ cn k (uS S) (vS S) (cS S) y s := fun s => by
    rw [← hh, its_iff hub (T := fun s => s == x || s == y) (fun z hz => by simp at hz; omega) (by omega)]
    constructor
    · rintro ⟨a, h1, h2⟩
      rw [Bool.or_eq_true, beq_iff_eq, beq_iff_eq] at h1
      rcases h1 with rfl | rfl
      · exact Or.inl h2
      · exact Or.inr h2
    · rintro (h1 | h1)
      · exact ⟨x, by simp, h1⟩
      · exact ⟨y, by simp, h1⟩
  have a1 : f_X9_liveNow m M = some (bs (lvS S n k) 10, M) := by
    have := m_liveNow (a := m) (M := M) (n := n) (k := k) (q := q) (by rw [hS]; exact W)
    rw [hS] at this; exact this
  have a2 : f_X9_closedOnes m M = some (bs (cS S) k, M) := by
    have := m_closedOnes (a := m) (M := M) (n := n) (k := k) (q := q) (by rw [hS]; exact W)
    rw [hS] at this; exact this
  have a3 : f_X9_hanging m M (nI 1 <<< (nI x &&& nI 31) ||| nI 1 <<< (nI y &&& nI 31)) (bs (cS S) k) = some (bs h 10, M) := by
    rw [bs_1 (show x < 10 by omega) (show 10 ≤ 32 by omega), bs_1 (show y < 10 by omega) (show 10 ≤ 32 by omega), bs_or (by omega)]
    have := m_hanging (a := m) (M := M) (n := n) (k := k) (q := q) (by rw [hS]; exact W) (cS S) (fun s => s == x || s == y) (Nat.le_refl k) (by omega)
    rw [hS, hh] at this
    exact this
  have a4 : ∀ A : Nat → Bool, f_X9_against m M (bs (lvS S n k) 10) (bs A 10) = some (nI (agS S n (lvS S n k) A), M) := fun A => by
    have := m_against (a := m) (M := M) (n := n) (k := k) (q := q) (by rw [hS]; exact W) (lvS S n k) A
    rw [hS] at this; exact this
  have fin : ∀ A : Nat → Bool, (agS S n (lvS S n k) A = 0 ↔ fb_ct (enS S n k x y) n = 0) → b_X9_mayJoin_39 m M (bs (lvS S n k) 10) (bs A 10) = some (nI (!decide (fb_ct (enS S n k x y) n ≠ 0)).toNat, M) := fun A hA => by
    have hle := ag_le S n (lvS S n k) A
    unfold b_X9_mayJoin_39 b_X9_mayJoin_50
    rw [a4]
    by_cases e : agS S n (lvS S n k) A = 0
    · rw [e, obn_s, if_pos (by rfl)]
      simp [hA.mp e]
      rfl
    · have : ¬ fb_ct (enS S n k x y) n = 0 := fun c => e (hA.mpr c)
      rw [obn_s, if_neg (by rw [show (0 : Int32) = nI 0 from rfl, n_eq (by omega) (by omega)]; exact e)]
      simp [this]
      rfl
  have en : ∀ s, enS S n k x y s = true ↔ ((bS S 3 s = true ∨ nI 0 < aO S s 7) ∧ lvS S n k s = false) ∧ ((lvS S n k y = true ∧ tg S k s x = true) ∨ (lvS S n k x = true ∧ tg S k s y = true)) := fun s => by
    unfold enS gdS
    simp
  unfold f_X9_mayJoin
  rw [a1, obn_s, a2, obn_s, show (1 : Int32) = nI 1 from rfl, show (31 : Int32) = nI 31 from rfl, a3, obn_s]
  by_cases z : ∀ i, i < 10 → (h i && lvS S n k i) = false
  · rw [if_pos (by rw [show (0 : Int32) = nI 0 from rfl, bs_and (by omega), bs_z (by omega)]; exact z)]
    refine fin _ ⟨fun _ => fb_ct_zero.mpr fun s hs => ?_, fun _ => ag_z.mpr ⟨an_z.mpr ?_, an_z.mpr ?_⟩⟩
    · rw [← Bool.not_eq_true, en]
      rintro ⟨-, ⟨h1, h2⟩ | ⟨h1, h2⟩⟩
      · have := z y (by omega)
        rw [h1, (hiff y).mpr (Or.inr (cn_rf y))] at this
        cases this
      · have := z x (by omega)
        rw [h1, (hiff x).mpr (Or.inl (cn_rf x))] at this
        cases this
    · rintro s hs ⟨h1, h2, -⟩
      rw [h1] at h2; cases h2
    · rintro s hs ⟨h1, h2, -⟩
      rw [h1] at h2; cases h2
  · rw [if_neg (by rw [show (0 : Int32) = nI 0 from rfl, bs_and (by omega), bs_z (by omega)]; exact z), bs_or (by omega)]
    obtain ⟨w, hw⟩ := Classical.not_forall.mp z
    obtain ⟨hw1, hw2⟩ := Classical.not_imp.mp hw
    have hw3 : h w = true ∧ lvS S n k w = true := by
      rw [Bool.not_eq_false, Bool.and_eq_true] at hw2
      exact hw2
    have hwn : w < n := by
      rcases (hiff w).mp hw3.1 with c | c
      · exact cn_lt hub c hx
      · exact cn_lt hub c hy
    have key : ∀ s, s < n → ((h s = true ∧ lvS S n k s = false) ↔ (lvS S n k s = false ∧ ((lvS S n k y = true ∧ tg S k s x = true) ∨ (lvS S n k x = true ∧ tg S k s y = true)))) := fun s hs => by
      rw [tg_iff W hs, tg_iff W hs]
      constructor
      · rintro ⟨h1, h2⟩
        refine ⟨h2, ?_⟩
        rcases (hiff s).mp h1 with c | c
        · left
          refine ⟨?_, cn_sy c⟩
          rcases (hiff w).mp hw3.1 with c2 | c2
          · have := lv_cn W hwn hs (cn_tr (cn_sy c2) c) hw3.2
            rw [h2] at this; cases this
          · exact lv_cn W hwn hy (cn_sy c2) hw3.2
        · right
          refine ⟨?_, cn_sy c⟩
          rcases (hiff w).mp hw3.1 with c2 | c2
          · exact lv_cn W hwn hx (cn_sy c2) hw3.2
          · have := lv_cn W hwn hs (cn_tr (cn_sy c2) c) hw3.2
            rw [h2] at this; cases this
      · rintro ⟨h2, ⟨-, c⟩ | ⟨-, c⟩⟩
        · exact ⟨(hiff s).mpr (Or.inl (cn_sy c)), h2⟩
        · exact ⟨(hiff s).mpr (Or.inr (cn_sy c)), h2⟩
    refine fin _ ⟨fun hz => fb_ct_zero.mpr fun s hs => ?_, fun hz => ag_z.mpr ⟨an_z.mpr ?_, an_z.mpr ?_⟩⟩
    · obtain ⟨z3, z7⟩ := ag_z.mp hz
      rw [← Bool.not_eq_true, en]
      rintro ⟨⟨hg, hl⟩, ht⟩
      obtain ⟨hs1, -⟩ := (key s hs).mpr ⟨hl, ht⟩
      rcases hg with hg | hg
      · refine an_z.mp z3 s (by omega) ⟨by rw [hs1, Bool.or_true], hl, hs, ?_⟩
        have := pos_b W (j := 3) (by omega) hs
        rw [hg] at this
        exact of_decide_eq_true this
      · exact an_z.mp z7 s (by omega) ⟨by rw [hs1, Bool.or_true], hl, hs, hg⟩
    · rintro s hs10 ⟨h1, h2, hs, h4⟩
      rw [h2, Bool.false_or] at h1
      have := (fb_ct_zero.mp hz) s hs
      rw [← Bool.not_eq_true, en] at this
      refine this ⟨⟨Or.inl ?_, h2⟩, ((key s hs).mp ⟨h1, h2⟩).2⟩
      rw [← pos_b W (by omega) hs]
      exact decide_eq_true h4
    · rintro s hs10 ⟨h1, h2, hs, h4⟩
      rw [h2, Bool.false_or] at h1
      have := (fb_ct_zero.mp hz) s hs
      rw [← Bool.not_eq_true, en] at this
      exact this ⟨⟨Or.inr h4, h2⟩, ((key s hs).mp ⟨h1, h2⟩).2⟩
theorem m_newIso {x y : Nat} (e : M (m + 1) = S) (h1 : S 1 = nI k) (hk : k < 16) : f_X9_newIsolator m M (nI x) (nI y) = some (nI 0, mrow M (m + 1) (niS S k x y)) := by
  unfold f_X9_newIsolator
  simp (disch := omega) only [li_0, li_1, li_2, li_3, li_4, li_5, li_6, li_7, li_8, li_9, li_10, li_11, li_12, li_13, li_14, li_15, li_16, li_17, li_18, li_19, li_20, li_21, li_22, li_23, li_24, li_25, li_26, li_27, li_28, li_29, li_30, li_31, li_32, li_33, li_34, li_35, li_36, li_37, li_38, li_39, li_40, li_41, li_42, li_43, li_44, li_45, li_46, li_47, li_48, li_49, li_50, li_51, li_52, li_53, li_54, li_55, li_56, li_57, li_58, li_59, li_60, li_61, li_62, li_63, li_71, li_72, li_73, li_81, li_82, li_97, li_98, li_99, li_100, li_101, li_102, li_105, li_110, li_111, li_116, li_117, li_126, li_161, li_233, li_932, li_1165, li_10000, li_100000, n_lt_t, n_lt_f, n_eq_t, n_eq_f, nI_add, n_sub, n_mul, n_ix, n_ckd, bnd_e, obn_s, zrk_0, zrk_1, zrk_b, zb_0, zb_1, zb_b, if_true, if_false, Bool.toNat_true, Bool.toNat_false, b0, b1, Bool.false_eq_true, Bool.true_eq_false, e, h1, m_lay]
  simp (disch := omega) only [mst_row, mrow_at, mrow_mrow, upd_n, e, h1, nI_add]
  congr 2
  refine mrow_c _ _ fun i => ?_
  unfold niS
  by_cases e0 : i = 1
  · rw [e0, upd_at, if_pos rfl]
  · rw [upd_n e0, if_neg e0]
    by_cases e1 : i = 97 + 4 * k + 3
    · rw [e1, upd_at, if_neg (by omega), if_neg (by omega), if_neg (by omega), if_pos (by omega)]
    · rw [upd_n e1]
      by_cases e2 : i = 97 + 4 * k + 2
      · rw [e2, upd_at, if_neg (by omega), if_neg (by omega), if_pos (by omega)]
      · rw [upd_n e2]
        by_cases e3 : i = 97 + 4 * k + 1
        · rw [e3, upd_at, if_neg (by omega), if_pos (by omega)]
        · rw [upd_n e3]
          by_cases e4 : i = 97 + 4 * k + 0
          · rw [e4, upd_at, if_pos (by omega)]
          · rw [upd_n e4, if_neg (by omega), if_neg e3, if_neg e2, if_neg e1]
theorem s_isolator (H : Q M X m) (x y : Int32) : Same X m (fun M => f_X8_isolator X M x y) (fun M => f_X9_isolator m M x y) M := by
  obtain ⟨hm, ⟨n, k, q, h1⟩, -, -, hT, -⟩ := id H
  have hn := h1.nlow
  have hk := h1.klow
  have hc : M (X + 1 + 1) 1 = nI k := h1.k0
  have h0 : M (m + 1) 1 = nI k := h1.1.1.2.2.1
  by_cases g : secB (M (m + 1)) x = true
  · by_cases g2 : secB (M (m + 1)) y = true
    · by_cases g3 : x = y
      · refine ⟨-1, M, M, ?_, ?_, H⟩
        · show f_X8_isolator X M _ _ = _
          unfold f_X8_isolator b_X8_isolator_27
          rw [hasSec_ok h1, g, obn_s, if_neg (by decide), hasSec_ok h1, g2, obn_s, if_neg (by decide), if_pos g3]
        · show f_X9_isolator m M _ _ = _
          unfold f_X9_isolator b_X9_isolator_21
          rw [m_isSection, g, obn_s, if_neg (by decide), m_isSection, g2, obn_s, if_neg (by decide), if_pos g3]
      · obtain ⟨x', hx, rfl⟩ := in_of (n := n) (by omega) (by have := g; unfold secB at this; rw [h1.1.1.1] at this; exact this)
        obtain ⟨y', hy, rfl⟩ := in_of (n := n) (by omega) (by have := g2; unfold secB at this; rw [h1.1.1.1] at this; exact this)
        have ej := endang_ok h1 hx hy
        have mj : ∀ M' : Mm, M' (m + 1) = M (m + 1) → f_X9_mayJoin m M' (nI x') (nI y') = some (nI (!decide (fb_ct (enS (M (m + 1)) n k x' y') n ≠ 0)).toNat, M') := fun M' e => by
          have := m_mayJoin (m := m) (M := M') (n := n) (k := k) (q := q) (by rw [e]; exact h1.1) hx hy
          rw [e] at this
          exact this
        generalize decide (fb_ct (enS (M (m + 1)) n k x' y') n ≠ 0) = E at ej mj
        cases E
        · by_cases g4 : k = 16
          · subst g4
            refine ⟨-3, M, M, ?_, ?_, H⟩
            · show f_X8_isolator X M _ _ = _
              unfold f_X8_isolator
              rw [hasSec_ok h1, g, obn_s, if_neg (by decide), hasSec_ok h1, g2, obn_s, if_neg (by decide), if_neg g3, ej, obn_s, if_pos (by decide), hc, if_neg (by decide)]
            · show f_X9_isolator m M _ _ = _
              unfold f_X9_isolator
              rw [m_isSection, g, obn_s, if_neg (by decide), m_isSection, g2, obn_s, if_neg (by decide), if_neg g3, mj M rfl, obn_s, if_neg (by decide)]
              rw [show ix (1 : Int32) = 1 from rfl, h0]
              try rfl
          · obtain ⟨M1, R, d', k1, k2, k3⟩ := mutQ H
            obtain ⟨M2, p1, p2, p3⟩ := addIso_ok (h1.kept (M' := M1) fun b b1 b2 => k2 b (by omega)) (by omega) hx hy
            obtain ⟨r4, e4, hQ⟩ := k3 M2 (fun b hb => p3 b (by omega))
            have e2 : M2 (m + 1) = M (m + 1) := by rw [p3 _ (by omega), k2 _ (by omega)]
            generalize hM4 : mst (mrow M2 (m + 2) R) m 3 (nI d') = M4 at r4 e4 hQ
            have r5 := m_newIso (M := M4) (m := m) (x := x') (y := y') e4 h0 (by omega)
            have e6 : niS (M (m + 1)) k x' y' 1 = nI (k + 1) := by unfold niS; rw [if_pos rfl]
            have s1 : secB (M2 (m + 1)) (nI x') = true := by rw [e2]; exact g
            have s2 : secB (M2 (m + 1)) (nI y') = true := by rw [e2]; exact g2
            refine ⟨nI k, M2, _, ?_, ?_, hQ _ _ _ _ p2 ?_⟩
            · show f_X8_isolator X M _ _ = _
              unfold f_X8_isolator
              rw [hasSec_ok h1, g, obn_s, if_neg (by decide), hasSec_ok h1, g2, obn_s, if_neg (by decide), if_neg g3, ej, obn_s, if_pos (by decide), hc, show (16 : Int32) = nI 16 from rfl, if_pos (by rw [n_lt (by omega) (by omega)]; omega), k1, obn_s, p1, obn_s]
            · show f_X9_isolator m M2 _ _ = _
              unfold f_X9_isolator
              rw [m_isSection, s1, obn_s, if_neg (by decide), m_isSection, s2, obn_s, if_neg (by decide), if_neg g3, mj M2 e2, obn_s, if_neg (by decide)]
              rw [show (1 : Int32) = nI 1 from rfl, n_ckd (by omega) (by omega), show ix (nI 1) = 1 from rfl, e2, h0, show (16 : Int32) = nI 16 from rfl, if_neg (by rw [n_eq (by omega) (by omega)]; exact g4), r4, obn_s, r5, obn_s, n_ckd (by omega) (by omega), mrow_at, e6, n_sub (by omega), show k + 1 - 1 = k by omega]
            · refine hT.of (ni_g (by omega) (by omega)) fun s hs => ⟨ni_O (by omega) hs (by omega), ni_O (by omega) hs (by omega)⟩
        · refine ⟨-2, M, M, ?_, ?_, H⟩
          · show f_X8_isolator X M _ _ = _
            unfold f_X8_isolator
            rw [hasSec_ok h1, g, obn_s, if_neg (by decide), hasSec_ok h1, g2, obn_s, if_neg (by decide), if_neg g3, ej, obn_s, if_neg (by decide)]
          · show f_X9_isolator m M _ _ = _
            unfold f_X9_isolator
            rw [m_isSection, g, obn_s, if_neg (by decide), m_isSection, g2, obn_s, if_neg (by decide), if_neg g3, mj M rfl, obn_s, if_pos (by decide)]
    · have g2 : secB (M (m + 1)) y = false := by simpa using g2
      refine ⟨-1, M, M, ?_, ?_, H⟩
      · show f_X8_isolator X M _ _ = _
        unfold f_X8_isolator b_X8_isolator_27
        rw [hasSec_ok h1, g, obn_s, if_neg (by decide), hasSec_ok h1, g2, obn_s, if_pos (by decide)]
      · show f_X9_isolator m M _ _ = _
        unfold f_X9_isolator b_X9_isolator_21
        rw [m_isSection, g, obn_s, if_neg (by decide), m_isSection, g2, obn_s, if_pos (by decide)]
  · have g : secB (M (m + 1)) x = false := by simpa using g
    refine ⟨-1, M, M, ?_, ?_, H⟩
    · show f_X8_isolator X M _ _ = _
      unfold f_X8_isolator b_X8_isolator_27
      rw [hasSec_ok h1, g, obn_s, if_pos (by decide)]
    · show f_X9_isolator m M _ _ = _
      unfold f_X9_isolator b_X9_isolator_21
      rw [m_isSection, g, obn_s, if_pos (by decide)]
end S5
