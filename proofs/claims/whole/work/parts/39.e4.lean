/-! the text, read by the reference; steps of a text, tried -/
section E4
variable {M : Mm} {X m n k q w T c z : Nat} {S : Sm} {cs : Nat → Int32}
theorem m_115 (h5 : M m 5 = nI z) (hz : z ≤ 60) (hc : ∀ j, j < z → M (m + 4) j = cs j) {i : Nat} (h8 : M m 8 = nI c) (hc2 : c < 1000) (hi : i < 10) :
    b_X9_isFormed_115 m M (nI i) = some (nI (decide (0 < i ∧ c < z ∧ cs c = 59)).toNat, mst M m 8 (nI (c + 1))) := by
  unfold b_X9_isFormed_115 b_X9_isFormed_148 b_X9_isFormed_149
  by_cases g1 : 0 < i
  · rw [if_pos (by rw [show (0 : Int32) = nI 0 from rfl, n_lt (by omega) (by omega)]; exact g1), h8, h5]
    by_cases g2 : c < z
    · rw [if_pos (by rw [n_lt (by omega) (by omega)]; exact g2), n_ckd (by omega) (by omega), show ix (nI c) = c from n_ix (by omega), hc c g2]
      by_cases g3 : cs c = 59
      · rw [if_pos g3, show decide (0 < i ∧ c < z ∧ cs c = 59) = true from decide_eq_true ⟨g1, g2, g3⟩, show (1 : Int32) = nI 1 from rfl, nI_add]
        rfl
      · rw [if_neg g3, show decide (0 < i ∧ c < z ∧ cs c = 59) = false from decide_eq_false (fun h => g3 h.2.2), show (1 : Int32) = nI 1 from rfl, nI_add]
        rfl
    · rw [if_neg (by rw [n_lt (by omega) (by omega)]; exact g2), show decide (0 < i ∧ c < z ∧ cs c = 59) = false from decide_eq_false (fun h => g2 h.2.1), show (1 : Int32) = nI 1 from rfl, nI_add]
      rfl
  · rw [if_neg (by rw [show (0 : Int32) = nI 0 from rfl, n_lt (by omega) (by omega)]; exact g1), h8, show decide (0 < i ∧ c < z ∧ cs c = 59) = false from decide_eq_false (fun h => g1 h.1), show (1 : Int32) = nI 1 from rfl, nI_add]
    rfl
theorem m_33 (h5 : M m 5 = nI z) (hz : z ≤ 60) (hc : ∀ j, j < z → M (m + 4) j = cs j) {i v kd : Nat} (h8 : M m 8 = nI c) (h9 : M m 9 = kV kd) (h10 : M m 10 = nI v) (hv : v < 100) (hc2 : c < 1000) (hi : i < 2) (k' : Nat) :
    l_X9_isFormed_33 m (k' + 1) M (nI i) = if kd < 8 ∧ dN cs z c < 10 then l_X9_isFormed_33 m k' (mst (mst M m 10 (nI (10 * v + dN cs z c))) m 8 (nI (c + 1))) (nI (i + 1)) else b_X9_isFormed_115 m M (nI i) := by
  rw [l_X9_isFormed_33, h9]
  by_cases g1 : kd < 8
  · rw [if_neg (by rw [kV_neg]; omega), if_pos (by rw [show (2 : Int32) = nI 2 from rfl, n_lt (by omega) (by omega)]; exact hi), h8, h5]
    by_cases g2 : c < z
    · rw [if_pos (by rw [n_lt (by omega) (by omega)]; exact g2), n_ckd (by omega) (by omega), show ix (nI c) = c from n_ix (by omega), hc c g2, m_in, obn_s]
      by_cases g3 : inB (cs c) 48 57 = true
      · obtain ⟨t, t1, t2, t3⟩ := in_nat (a := 48) (b := 57) (by omega) (by omega) g3
        have e : dN cs z c = t - 48 := by
          unfold dN
          rw [if_pos ⟨g2, g3⟩, t3, show ix (nI t) = t from n_ix (by omega)]
        rw [g3, if_neg (by decide), if_pos ⟨g1, by rw [e]; omega⟩, e, h8, show ix (nI c) = c from n_ix (by omega), n_ckd (by omega) (by omega), hc c g2, t3, h10, bnd_e, mst_at, upd_n (by omega), h8, bnd_e]
        rw [show (10 : Int32) = nI 10 from rfl, show (48 : Int32) = nI 48 from rfl, show (1 : Int32) = nI 1 from rfl, n_mul, nI_add, nI_add, nI_add, n_sub (by omega), show 10 * v + t - 48 = 10 * v + (t - 48) by omega]
      · have e : dN cs z c = 10 := by
          unfold dN
          rw [if_neg (fun h => g3 h.2)]
        have g3 : inB (cs c) 48 57 = false := by simpa using g3
        rw [g3, if_pos (by decide), if_neg (by rw [e]; omega)]
    · have e : dN cs z c = 10 := by
        unfold dN
        rw [if_neg (fun h => g2 h.1)]
      rw [if_neg (by rw [n_lt (by omega) (by omega)]; exact g2), if_neg (by rw [e]; omega)]
  · rw [if_pos (by rw [kV_neg]; exact g1), if_neg (fun h => g1 h.1)]
theorem m_33e (h9 : M m 9 = nI (kN (cs c))) (hk : kN (cs c) < 8) (k' : Nat) : l_X9_isFormed_33 m (k' + 1) M (nI 2) = b_X9_isFormed_115 m M (nI 2) := by
  rw [l_X9_isFormed_33, h9, if_neg (by rw [show (0 : Int32) = nI 0 from rfl, n_lt (by omega) (by omega)]; omega), if_neg (by decide)]
theorem formed_ok (h5 : M m 5 = nI z) (hz : z ≤ 60) (hc : ∀ j, j < z → M (m + 4) j = cs j) (h8 : M m 8 = nI c) (hcz : c < z) : ∃ (b : Bool) (M' : Mm), f_X9_isFormed m M = some (nI b.toNat, M') ∧ (∀ a, a ≠ m → M' a = M a) ∧ (∀ j, j ≠ 8 → j ≠ 9 → j ≠ 10 → M' m j = M m j) ∧ (∃ e, e < 1000 ∧ M' m 8 = nI e) ∧
    (prs cs z c = none → b = false) ∧ ∀ x p nx, prs cs z c = some (x, p, nx) → b = true ∧ M' m 9 = nI x ∧ M' m 10 = nI p ∧ M' m 8 = nI nx := by
  have hd1 := dN_le cs z (c + 1)
  have hd2 := dN_le cs z (c + 2)
  generalize hM1 : mst (mst (mst M m 9 (kV (kN (cs c)))) m 8 (nI (c + 1))) m 10 (nI 0) = M1
  have k1 : ∀ a, a ≠ m → M1 a = M a := fun a ha => by rw [← hM1, mst_n ha, mst_n ha, mst_n ha]
  have kj : ∀ j, j ≠ 8 → j ≠ 9 → j ≠ 10 → M1 m j = M m j := fun j j1 j2 j3 => by rw [← hM1, mst_at, upd_n j3, mst_at, upd_n j1, mst_at, upd_n j2]
  have a5 : M1 m 5 = nI z := by rw [kj 5 (by omega) (by omega) (by omega), h5]
  have ac : ∀ j, j < z → M1 (m + 4) j = cs j := fun j hj => by rw [k1 _ (by omega), hc j hj]
  have a8 : M1 m 8 = nI (c + 1) := by rw [← hM1, mst_at, upd_n (by omega), mst_at, upd_at]
  have a9 : M1 m 9 = kV (kN (cs c)) := by rw [← hM1, mst_at, upd_n (by omega), mst_at, upd_n (by omega), mst_at, upd_at]
  have a10 : M1 m 10 = nI 0 := by rw [← hM1, mst_at, upd_at]
  have start : f_X9_isFormed m M = l_X9_isFormed_33 m FU M1 (nI 0) := by
    unfold f_X9_isFormed
    rw [h8, n_ckd (by omega) (by omega), show ix (nI c) = c from n_ix (by omega), hc c hcz, (kind_ok M (cs c)).2, obn_s, bnd_e, mst_at, upd_n (by omega), h8, bnd_e, show (1 : Int32) = nI 1 from rfl, nI_add, show (0 : Int32) = nI 0 from rfl, bnd_e, hM1]
  have fin : ∀ (M2 : Mm) (c' i : Nat), i < 10 → c' < 900 → M2 m 5 = nI z → (∀ j, j < z → M2 (m + 4) j = cs j) → M2 m 8 = nI c' → (∀ a, a ≠ m → M2 a = M a) → (∀ j, j ≠ 8 → j ≠ 9 → j ≠ 10 → M2 m j = M m j) →
      (prs cs z c = none → ¬ (0 < i ∧ c' < z ∧ cs c' = 59)) → (∀ x p nx, prs cs z c = some (x, p, nx) → (0 < i ∧ c' < z ∧ cs c' = 59) ∧ M2 m 9 = nI x ∧ M2 m 10 = nI p ∧ nx = c' + 1) →
      ∃ (b : Bool) (M' : Mm), b_X9_isFormed_115 m M2 (nI i) = some (nI b.toNat, M') ∧ (∀ a, a ≠ m → M' a = M a) ∧ (∀ j, j ≠ 8 → j ≠ 9 → j ≠ 10 → M' m j = M m j) ∧ (∃ e, e < 1000 ∧ M' m 8 = nI e) ∧
      (prs cs z c = none → b = false) ∧ ∀ x p nx, prs cs z c = some (x, p, nx) → b = true ∧ M' m 9 = nI x ∧ M' m 10 = nI p ∧ M' m 8 = nI nx := by
    intro M2 c' i hi hc' e5 ec e8 kk kf p1 p2
    refine ⟨decide (0 < i ∧ c' < z ∧ cs c' = 59), mst M2 m 8 (nI (c' + 1)), m_115 e5 hz ec e8 (by omega) hi, fun a ha => by rw [mst_n ha, kk a ha], fun j j1 j2 j3 => by rw [mst_at, upd_n j1, kf j j1 j2 j3], ⟨c' + 1, by omega, by rw [mst_at, upd_at]⟩, fun e => decide_eq_false (p1 e), fun x p nx e => ?_⟩
    obtain ⟨q1, q2, q3, q4⟩ := p2 x p nx e
    refine ⟨decide_eq_true q1, by rw [mst_at, upd_n (by omega), q2], by rw [mst_at, upd_n (by omega), q3], by rw [mst_at, upd_at, q4]⟩
  rw [start, show FU = 3999 + 1 from rfl, m_33 a5 hz ac a8 a9 a10 (by omega) (by omega) (by omega)]
  by_cases g1 : kN (cs c) < 8 ∧ dN cs z (c + 1) < 10
  · rw [if_pos g1, show 3999 = 3998 + 1 from rfl]
    generalize hM2 : mst (mst M1 m 10 (nI (10 * 0 + dN cs z (c + 1)))) m 8 (nI (c + 1 + 1)) = M2
    have k2 : ∀ a, a ≠ m → M2 a = M a := fun a ha => by rw [← hM2, mst_n ha, mst_n ha, k1 a ha]
    have kj2 : ∀ j, j ≠ 8 → j ≠ 9 → j ≠ 10 → M2 m j = M m j := fun j j1 j2 j3 => by rw [← hM2, mst_at, upd_n j1, mst_at, upd_n j3, kj j j1 j2 j3]
    have b5 : M2 m 5 = nI z := by rw [kj2 5 (by omega) (by omega) (by omega), h5]
    have bc : ∀ j, j < z → M2 (m + 4) j = cs j := fun j hj => by rw [k2 _ (by omega), hc j hj]
    have b8 : M2 m 8 = nI (c + 2) := by rw [← hM2, mst_at, upd_at]
    have b9 : M2 m 9 = kV (kN (cs c)) := by rw [← hM2, mst_at, upd_n (by omega), mst_at, upd_n (by omega), a9]
    have b10 : M2 m 10 = nI (dN cs z (c + 1)) := by rw [← hM2, mst_at, upd_n (by omega), mst_at, upd_at, show 10 * 0 + dN cs z (c + 1) = dN cs z (c + 1) by omega]
    have bk : kV (kN (cs c)) = nI (kN (cs c)) := by unfold kV; rw [if_pos g1.1]
    rw [m_33 b5 hz bc b8 b9 b10 (by omega) (by omega) (by omega)]
    by_cases g2 : kN (cs c) < 8 ∧ dN cs z (c + 2) < 10
    · rw [if_pos g2, show 3998 = 3997 + 1 from rfl]
      generalize hM3 : mst (mst M2 m 10 (nI (10 * dN cs z (c + 1) + dN cs z (c + 2)))) m 8 (nI (c + 2 + 1)) = M3
      have k3 : ∀ a, a ≠ m → M3 a = M a := fun a ha => by rw [← hM3, mst_n ha, mst_n ha, k2 a ha]
      have kj3 : ∀ j, j ≠ 8 → j ≠ 9 → j ≠ 10 → M3 m j = M m j := fun j j1 j2 j3 => by rw [← hM3, mst_at, upd_n j1, mst_at, upd_n j3, kj2 j j1 j2 j3]
      have c9 : M3 m 9 = nI (kN (cs c)) := by rw [← hM3, mst_at, upd_n (by omega), mst_at, upd_n (by omega), b9, bk]
      have c10 : M3 m 10 = nI (10 * dN cs z (c + 1) + dN cs z (c + 2)) := by rw [← hM3, mst_at, upd_n (by omega), mst_at, upd_at]
      have c8 : M3 m 8 = nI (c + 3) := by rw [← hM3, mst_at, upd_at]
      rw [m_33e c9 g1.1]
      have ep : prs cs z c = (if c + 3 < z ∧ cs (c + 3) = 59 then some (kN (cs c), 10 * dN cs z (c + 1) + dN cs z (c + 2), c + 4) else none) := by
        unfold prs
        rw [if_pos g1, if_pos g2.2]
      refine fin M3 (c + 3) 2 (by omega) (by omega) (by rw [kj3 5 (by omega) (by omega) (by omega), h5]) (fun j hj => by rw [k3 _ (by omega), hc j hj]) c8 k3 kj3 (fun e h => ?_) (fun x p nx e => ?_)
      · rw [ep, if_pos h.2] at e
        cases e
      · rw [ep] at e
        by_cases y : c + 3 < z ∧ cs (c + 3) = 59
        · rw [if_pos y] at e
          cases e
          exact ⟨⟨by omega, y⟩, c9, c10, rfl⟩
        · rw [if_neg y] at e
          cases e
    · rw [if_neg g2]
      have g3 : ¬ dN cs z (c + 2) < 10 := fun h => g2 ⟨g1.1, h⟩
      have ep : prs cs z c = (if c + 2 < z ∧ cs (c + 2) = 59 then some (kN (cs c), dN cs z (c + 1), c + 3) else none) := by
        unfold prs
        rw [if_pos g1, if_neg g3]
      refine fin M2 (c + 2) 1 (by omega) (by omega) b5 bc b8 k2 kj2 (fun e h => ?_) (fun x p nx e => ?_)
      · rw [ep, if_pos h.2] at e
        cases e
      · rw [ep] at e
        by_cases y : c + 2 < z ∧ cs (c + 2) = 59
        · rw [if_pos y] at e
          cases e
          exact ⟨⟨by omega, y⟩, by rw [b9, bk], b10, rfl⟩
        · rw [if_neg y] at e
          cases e
  · rw [if_neg g1]
    have ep : prs cs z c = none := by
      unfold prs
      rw [if_neg g1]
    refine fin M1 (c + 1) 0 (by omega) (by omega) a5 ac a8 k1 kj (fun e h => absurd h.1 (by omega)) (fun x p nx e => ?_)
    rw [ep] at e
    cases e
end E4
