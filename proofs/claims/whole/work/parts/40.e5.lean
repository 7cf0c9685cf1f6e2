/-! steps of a text, tried on both sides -/
section E5
variable {X m n k w z : Nat} {cs : Nat → Int32}
/-- reason, where, how many, and the state then -/
def tx (n k : Nat) (cs : Nat → Int32) (z : Nat) : Nat → Nat → Sm → Nat → Nat → Nat × Nat × Nat × Sm × Nat
  | 0, c, S, q, t => (0, c, t, S, q)
  | f + 1, c, S, q, t => if c < z then
      (match prs cs z c with
      | none => (1, c, t, S, q)
      | some (x, p, nx) => if plB S (nI x) (nI p) = true then (if rfS S n k x p = 0 then tx n k cs z f nx (mkS S q x p) (mkq q) (t + 1) else (rfS S n k x p, c, t, S, q)) else (2, c, t, S, q))
    else (0, c, t, S, q)
theorem tx_e {f c q t : Nat} {S : Sm} (h : ¬ c < z) : tx n k cs z (f + 1) c S q t = (0, c, t, S, q) := by
  rw [tx, if_neg h]
theorem tx_1 {f c q t : Nat} {S : Sm} (h : c < z) (e : prs cs z c = none) : tx n k cs z (f + 1) c S q t = (1, c, t, S, q) := by
  rw [tx, if_pos h, e]
theorem tx_2 {f c q t x p nx : Nat} {S : Sm} (h : c < z) (e : prs cs z c = some (x, p, nx)) (h2 : plB S (nI x) (nI p) = false) : tx n k cs z (f + 1) c S q t = (2, c, t, S, q) := by
  rw [tx, if_pos h, e]
  simp only [h2]
  rfl
theorem tx_r {f c q t x p nx : Nat} {S : Sm} (h : c < z) (e : prs cs z c = some (x, p, nx)) (h2 : plB S (nI x) (nI p) = true) (h3 : ¬ rfS S n k x p = 0) : tx n k cs z (f + 1) c S q t = (rfS S n k x p, c, t, S, q) := by
  rw [tx, if_pos h, e]
  simp only [h2, if_true, if_neg h3]
theorem tx_g {f c q t x p nx : Nat} {S : Sm} (h : c < z) (e : prs cs z c = some (x, p, nx)) (h2 : plB S (nI x) (nI p) = true) (h3 : rfS S n k x p = 0) : tx n k cs z (f + 1) c S q t = tx n k cs z f nx (mkS S q x p) (mkq q) (t + 1) := by
  rw [tx, if_pos h, e]
  simp only [h2, if_true, if_pos h3]
theorem prs_in {c x p nx : Nat} (h : prs cs z c = some (x, p, nx)) : x < 8 ∧ p < 110 ∧ c + 3 ≤ nx ∧ nx ≤ z := by
  have hd2 := dN_le cs z (c + 2)
  unfold prs at h
  split at h
  · rename_i g
    split at h
    · split at h
      · cases h
        rename_i y
        exact ⟨g.1, by omega, by omega, by omega⟩
      · cases h
    · split at h
      · cases h
        rename_i y
        exact ⟨g.1, by omega, by omega, by omega⟩
      · cases h
  · cases h
theorem prs_pl {S : Sm} {q x p : Nat} (W : Wf S n k q) (hx : x < 8) (hp : p < 110) (h : plB S (nI x) (nI p) = true) : plc n k x p := by
  have hn := W.1.2.1
  have hk := W.1.2.2.2.1
  obtain ⟨x', p', e1, e2, h1, h2⟩ := plB_of W (in_to (n := 8) (by omega) hx) h
  have hp' : p' < 100 := by unfold plc at h2; split at h2 <;> omega
  rw [(n_eq (by omega) (by omega)).mp e1, (n_eq (by omega) (by omega)).mp e2]
  exact h2
theorem tryT_ok {R T v : Nat} (hTR : T + 2 ≤ R) (hz : z ≤ 60) : ∀ f c t k' (M : Mm) (S : Sm) (q : Nat), z - c < f → f < k' → 3 * t ≤ c → c ≤ z → M T 0 = nI z → (∀ j, j < z → M (T + 1) j = cs j) → M R 1 = nI t → M R 2 = nI c → M R 3 = nI 0 → RW M (R + 1) S n k q →
    ∃ M', l_X4_tryText_7 R v T k' M (nI t) = some (nI 0, M') ∧ M' R 3 = nI (tx n k cs z f c S q t).1 ∧ M' R 2 = nI (tx n k cs z f c S q t).2.1 ∧ M' R 1 = nI (tx n k cs z f c S q t).2.2.1 ∧ RW M' (R + 1) (tx n k cs z f c S q t).2.2.2.1 n k (tx n k cs z f c S q t).2.2.2.2 ∧
      (∀ b, b ≠ T → (b < R ∨ R + 33 ≤ b) → M' b = M b) ∧ M' T 0 = nI z := by
  intro f
  induction f with
  | zero => intro c t k' M S q h; omega
  | succ f ih =>
    intro c t k' M S q hf hk' htc hcz h0 hc h1 h2 h3 hW
    obtain ⟨k'', rfl⟩ : ∃ x, k' = x + 1 := ⟨k' - 1, by omega⟩
    rw [l_X4_tryText_7, if_pos (show nI t < 60 by rw [show (60 : Int32) = nI 60 from rfl, n_lt (by omega) (by omega)]; omega), h2, h0]
    by_cases g : c < z
    · rw [if_pos (by rw [n_lt (by omega) (by omega)]; exact g)]
      obtain ⟨b, M1, r1, r2, r3, r4, r5⟩ := read_ok h0 hz hc g
      have hW1 : RW M1 (R + 1) S n k q := hW.kept fun b b1 b2 => r2 b (by omega)
      have stop : ∀ (M2 : Mm) (r : Nat), r ≠ 0 → r < 1000 → RW M2 (R + 1) S n k q → (∀ b, b ≠ T → (b < R ∨ R + 33 ≤ b) → M2 b = M b) → M2 T 0 = nI z → M2 R 1 = nI t → M2 R 2 = nI c → tx n k cs z (f + 1) c S q t = (r, c, t, S, q) →
          ∃ M', b_X4_tryText_88 R v T (l_X4_tryText_7 R v T k'') (mst M2 R 3 (nI r)) (nI t) = some (nI 0, M') ∧ M' R 3 = nI (tx n k cs z (f + 1) c S q t).1 ∧ M' R 2 = nI (tx n k cs z (f + 1) c S q t).2.1 ∧ M' R 1 = nI (tx n k cs z (f + 1) c S q t).2.2.1 ∧ RW M' (R + 1) (tx n k cs z (f + 1) c S q t).2.2.2.1 n k (tx n k cs z (f + 1) c S q t).2.2.2.2 ∧
            (∀ b, b ≠ T → (b < R ∨ R + 33 ≤ b) → M' b = M b) ∧ M' T 0 = nI z := by
        intro M2 r hr hr2 w1 w2 w3 w4 w5 e
        rw [e]
        refine ⟨mst M2 R 3 (nI r), ?_, by rw [mst_at, upd_at], by rw [mst_at, upd_n (by omega), w5], by rw [mst_at, upd_n (by omega), w4], w1.kept fun b b1 b2 => mst_n (by omega), fun b b1 b2 => by rw [mst_n (by omega), w2 b b1 b2], by rw [mst_n (by omega), w3]⟩
        unfold b_X4_tryText_88
        rw [mst_at, upd_at, if_neg (by rw [show (0 : Int32) = nI 0 from rfl, n_eq (by omega) (by omega)]; exact hr)]
        rfl
      have f1 : ∀ b, b ≠ T → (b < R ∨ R + 33 ≤ b) → M1 b = M b := fun b b1 b2 => r2 b b1
      have z1 : M1 T 0 = nI z := by rw [r3 0 (by omega) (by omega) (by omega), h0]
      have t1 : M1 R 1 = nI t := by rw [r2 R (by omega), h1]
      have c1 : M1 R 2 = nI c := by rw [r2 R (by omega), h2]
      rw [r1, obn_s]
      cases hp : prs cs z c with
      | none =>
        rw [r4 hp, if_pos (by decide), bnd_e]
        exact stop M1 1 (by omega) (by omega) hW1 f1 z1 t1 c1 (tx_1 g hp)
      | some e =>
        obtain ⟨x, p, nx⟩ := e
        obtain ⟨q1, q2, q3, q4⟩ := r5 x p nx hp
        obtain ⟨i1, i2, i3, i4⟩ := prs_in hp
        rw [q1, if_neg (by decide), q2, q3, hasPlace_ok hW1, obn_s, show inB (nI x) 0 7 = true from in_to (n := 8) (by omega) i1, Bool.true_and]
        cases g2 : plB S (nI x) (nI p)
        · rw [if_pos (by decide), bnd_e]
          exact stop M1 2 (by omega) (by omega) hW1 f1 z1 t1 c1 (tx_2 g hp g2)
        · have hpl := prs_pl hW1.1 i1 i2 g2
          obtain ⟨M2, s1, s2⟩ := reason_ok hW1 i1 hpl
          have rl := rf_lt S n k x p
          rw [if_neg (by decide), q2, q3, s1, obn_s, bnd_e]
          by_cases g3 : rfS S n k x p = 0
          · rw [g3, tx_g g hp g2 g3]
            have hW2 : RW (mst M2 R 3 (nI 0)) (R + 1) S n k q := (hW1.scr s2).kept fun b b1 b2 => mst_n (by omega)
            obtain ⟨M3, u1, u2, u3⟩ := make_ok hW2 i1 hpl
            have T2 : M2 T = M1 T := s2 T (by omega)
            have k3 : ∀ b, (b ≤ R ∨ R + 33 ≤ b) → M3 b = mst M2 R 3 (nI 0) b := fun b hb => u3 b (by omega)
            have hR : ∀ j, j ≠ 3 → M3 R j = M R j := fun j hj => by rw [k3 R (by omega), mst_at, upd_n hj, s2 R (by omega), r2 R (by omega)]
            have hR3 : M3 R 3 = nI 0 := by rw [k3 R (by omega), mst_at, upd_at]
            have hT : M3 T = M1 T := by rw [k3 T (by omega), mst_n (by omega), T2]
            have f3 : ∀ b, b ≠ T → (b < R ∨ R + 33 ≤ b) → M3 b = M b := fun b b1 b2 => by rw [k3 b (by omega), mst_n (by omega), s2 b (by omega), r2 b b1]
            obtain ⟨M', v1, v2, v3, v4, v5, v6, v7⟩ := ih nx (t + 1) k'' (mst (mst M3 R 1 (nI (t + 1))) R 2 (nI nx)) _ _ (by omega) (by omega) (by omega) i4 (by rw [mst_n (by omega), mst_n (by omega), hT, z1])
              (fun j hj => by rw [mst_n (by omega), mst_n (by omega), f3 (T + 1) (by omega) (by omega), hc j hj]) (by rw [mst_at, upd_n (by omega), mst_at, upd_at]) (by rw [mst_at, upd_at]) (by rw [mst_at, upd_n (by omega), mst_at, upd_n (by omega), hR3])
              (u2.kept fun b b1 b2 => by rw [mst_n (by omega), mst_n (by omega)])
            refine ⟨M', ?_, v2, v3, v4, v5, fun b b1 b2 => by rw [v6 b b1 b2, mst_n (by omega), mst_n (by omega), f3 b b1 b2], v7⟩
            unfold b_X4_tryText_88
            rw [mst_at, upd_at, if_pos (show nI 0 = 0 from rfl), mst_n (show T ≠ R by omega), T2, q2, q3, u1, obn_s, bnd_e, hR 1 (by omega), h1, bnd_e, mst_n (show T ≠ R by omega), hT, q4, show (1 : Int32) = nI 1 from rfl, nI_add, v1]
          · exact stop M2 _ g3 rl (hW1.scr s2) (fun b b1 b2 => by rw [s2 b (by omega), f1 b b1 b2]) (by rw [s2 T (by omega), z1]) (by rw [s2 R (by omega), t1]) (by rw [s2 R (by omega), c1]) (tx_r g hp g2 g3)
    · rw [if_neg (by rw [n_lt (by omega) (by omega)]; exact g), tx_e g]
      exact ⟨M, rfl, h3, h2, h1, hW, fun b _ _ => rfl, h0⟩
theorem m_107 {M : Mm} {r : Nat} (h : r ≠ 0) (hr : r < 1000) (k' : Nat) : l_X9_reasonOfText_12 m (k' + 1) M (nI r) = some (nI r, M) := by
  rw [l_X9_reasonOfText_12]
  unfold b_X9_reasonOfText_107
  rw [if_neg (show ¬ nI r = 0 by rw [show (0 : Int32) = nI 0 from rfl, n_eq (by omega) (by omega)]; exact h), ite_self]
theorem reaT_ok (hz : z ≤ 60) : ∀ f c t k' (M : Mm) (S : Sm) (q : Nat), z - c < f → f + 2 < k' → c ≤ z → M m 5 = nI z → (∀ j, j < z → M (m + 4) j = cs j) → M m 12 = nI t → M m 8 = nI c → M (m + 1) = S → Wf S n k q →
    ∃ M', l_X9_reasonOfText_12 m k' M (nI 0) = some (nI (tx n k cs z f c S q t).1, M') ∧ ((tx n k cs z f c S q t).1 ≠ 0 → M' m 11 = nI (tx n k cs z f c S q t).2.1) ∧ M' m 12 = nI (tx n k cs z f c S q t).2.2.1 ∧ M' (m + 1) = (tx n k cs z f c S q t).2.2.2.1 ∧
      (∀ b, b ≠ m → b ≠ m + 1 → M' b = M b) ∧ ∀ j, j < 8 → M' m j = M m j := by
  intro f
  induction f with
  | zero => intro c t k' M S q h; omega
  | succ f ih =>
    intro c t k' M S q hf hk' hcz h5 hc h12 h8 hS W
    obtain ⟨k'', rfl⟩ : ∃ x, k' = x + 1 := ⟨k' - 1, by omega⟩
    rw [l_X9_reasonOfText_12, h8, h5]
    by_cases g : c < z
    · rw [if_pos (by rw [n_lt (by omega) (by omega)]; exact g), if_pos (show nI 0 = 0 from rfl), bnd_e]
      generalize hM0 : mst M m 11 (nI c) = M0
      have a5 : M0 m 5 = nI z := by rw [← hM0, mst_at, upd_n (by omega), h5]
      have a8 : M0 m 8 = nI c := by rw [← hM0, mst_at, upd_n (by omega), h8]
      have a11 : M0 m 11 = nI c := by rw [← hM0, mst_at, upd_at]
      have a12 : M0 m 12 = nI t := by rw [← hM0, mst_at, upd_n (by omega), h12]
      have k0 : ∀ b, b ≠ m → M0 b = M b := fun b hb => by rw [← hM0, mst_n hb]
      have kj : ∀ j, j < 8 → M0 m j = M m j := fun j hj => by rw [← hM0, mst_at, upd_n (by omega)]
      obtain ⟨b, M1, r1, r2, r3, -, r4, r5⟩ := formed_ok a5 hz (fun j hj => by rw [k0 _ (by omega), hc j hj]) a8 g
      have e1 : M1 (m + 1) = S := by rw [r2 _ (by omega), k0 _ (by omega), hS]
      have stop : ∀ r, r ≠ 0 → r < 1000 → tx n k cs z (f + 1) c S q t = (r, c, t, S, q) →
          ∃ M', b_X9_reasonOfText_77 m (l_X9_reasonOfText_12 m k'') M1 (nI r) = some (nI (tx n k cs z (f + 1) c S q t).1, M') ∧ ((tx n k cs z (f + 1) c S q t).1 ≠ 0 → M' m 11 = nI (tx n k cs z (f + 1) c S q t).2.1) ∧ M' m 12 = nI (tx n k cs z (f + 1) c S q t).2.2.1 ∧ M' (m + 1) = (tx n k cs z (f + 1) c S q t).2.2.2.1 ∧
            (∀ b, b ≠ m → b ≠ m + 1 → M' b = M b) ∧ ∀ j, j < 8 → M' m j = M m j := by
        intro r hr hr2 e
        rw [e]
        refine ⟨M1, ?_, fun _ => by rw [r3 11 (by omega) (by omega) (by omega), a11], by rw [r3 12 (by omega) (by omega) (by omega), a12], e1, fun b b1 b2 => by rw [r2 b b1, k0 b b1], fun j hj => by rw [r3 j (by omega) (by omega) (by omega), kj j hj]⟩
        unfold b_X9_reasonOfText_77
        rw [if_neg (by rw [show (0 : Int32) = nI 0 from rfl, n_eq (by omega) (by omega)]; exact hr)]
        obtain ⟨k3, rfl⟩ : ∃ x, k'' = x + 1 := ⟨k'' - 1, by omega⟩
        exact m_107 hr hr2 k3
      rw [r1, obn_s]
      cases hp : prs cs z c with
      | none =>
        rw [r4 hp, if_pos (by decide)]
        exact stop 1 (by omega) (by omega) (tx_1 g hp)
      | some e =>
        obtain ⟨x, p, nx⟩ := e
        obtain ⟨q1, q2, q3, q4⟩ := r5 x p nx hp
        obtain ⟨i1, i2, i3, i4⟩ := prs_in hp
        rw [q1, if_neg (by decide), q2, q3, m_isPlace, e1, obn_s]
        cases g2 : plB S (nI x) (nI p)
        · rw [if_pos (by decide)]
          exact stop 2 (by omega) (by omega) (tx_2 g hp g2)
        · have hpl := prs_pl W i1 i2 g2
          have s1 := m_refuses (a := m) (M := M1) (n := n) (k := k) (q := q) (by rw [e1]; exact W) i1 hpl
          have s2 := m_makes (a := m) (M := M1) (n := n) (k := k) (q := q) (by rw [e1]; exact W) i1 hpl
          rw [e1] at s1 s2
          have rl := rf_lt S n k x p
          rw [if_neg (by decide), q2, q3, s1, obn_s]
          by_cases g3 : rfS S n k x p = 0
          · rw [g3, tx_g g hp g2 g3]
            generalize hM3 : mst (mrow M1 (m + 1) (mkS S q x p)) m 12 (nI (t + 1)) = M3
            have f3 : ∀ b, b ≠ m → b ≠ m + 1 → M3 b = M b := fun b b1 b2 => by rw [← hM3, mst_n b1, mrow_n b2, r2 b b1, k0 b b1]
            have g3j : ∀ j, j < 8 → M3 m j = M m j := fun j hj => by rw [← hM3, mst_at, upd_n (by omega), mrow_n (by omega), r3 j (by omega) (by omega) (by omega), kj j hj]
            obtain ⟨M', v1, v2, v3, v4, v5, v6⟩ := ih nx (t + 1) k'' M3 _ _ (by omega) (by omega) i4 (by rw [g3j 5 (by omega), h5]) (fun j hj => by rw [f3 _ (by omega) (by omega), hc j hj]) (by rw [← hM3, mst_at, upd_at]) (by rw [← hM3, mst_at, upd_n (by omega), mrow_n (by omega), q4]) (by rw [← hM3, mst_n (by omega), mrow_at]) (W.mk i1 hpl)
            refine ⟨M', ?_, v2, v3, v4, fun b b1 b2 => by rw [v5 b b1 b2, f3 b b1 b2], fun j hj => by rw [v6 j hj, g3j j hj]⟩
            unfold b_X9_reasonOfText_77
            rw [if_pos (show nI 0 = 0 from rfl), q2, q3, s2, obn_s, mrow_n (by omega), r3 12 (by omega) (by omega) (by omega), a12, bnd_e, show (1 : Int32) = nI 1 from rfl, nI_add, hM3, v1]
          · exact stop _ g3 rl (tx_r g hp g2 g3)
    · rw [if_neg (by rw [n_lt (by omega) (by omega)]; exact g), tx_e g]
      exact ⟨M, rfl, fun h => absurd rfl h, h12, hS, fun b _ _ => rfl, fun j _ => rfl⟩
end E5
