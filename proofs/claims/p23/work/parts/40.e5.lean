/-! steps of a text, tried on both sides -/
section E5
variable {X m n k w z : Nat} {cs : Nat → Int32}
/-- reason, where, how many, and the state then -/
def tx (n k : Nat) (cs : Nat → Int32) (z : Nat) : Nat → Nat → Sm → Nat → Nat → Nat × Nat × Nat × Sm × Nat
  | 0, c, S, q, t => (0, c, t, S, q)
  | f + 1, c, S, q, t => if c < z then
      (match prs cs z c with
      | none => (1, c, t, S, q)
      | some (x, p, nx) => if plB S (nI x) (nI p) = true then (if rfS S n k x p = 0 then tx n k cs z f nx (mkS S q x p) (mkq q) (t + 1) else (rfS S n k x p, c, t, S, q)) else (2, c, t, S, q))
    else (0, c, t, S, q)
theorem tx_e {f c q t : Nat} {S : Sm} (h : ¬ c < z) : tx n k cs z (f + 1) c S q t = (0, c, t, S, q) := by
  rw [tx, if_neg h]
theorem tx_1 {f c q t : Nat} {S : Sm} (h : c < z) (e : prs cs z c = none) : tx n k cs z (f + 1) c S q t = (1, c, t, S, q) := by
  rw [tx, if_pos h, e]
theorem tx_2 {f c q t x p nx : Nat} {S : Sm} (h : c < z) (e : prs cs z c = some (x, p, nx)) (h2 : plB S (nI x) (nI p) = false) : tx n k cs z (f + 1) c S q t = (2, c, t, S, q) := by
  rw [tx, if_pos h, e]
  simp only [h2]
  rfl
theorem tx_r {f c q t x p nx : Nat} {S : Sm} (h : c < z) (e : prs cs z c = some (x, p, nx)) (h2 : plB S (nI x) (nI p) = true) (h3 : ¬ rfS S n k x p = 0) : tx n k cs z (f + 1) c S q t = (rfS S n k x p, c, t, S, q) := by
  rw [tx, if_pos h, e]
  simp only [h2, if_true, if_neg h3]
theorem tx_g {f c q t x p nx : Nat} {S : Sm} (h : c < z) (e : prs cs z c = some (x, p, nx)) (h2 : plB S (nI x) (nI p) = true) (h3 : rfS S n k x p = 0) : tx n k cs z (f + 1) c S q t = tx n k cs z f nx (mkS S q x p) (mkq q) (t + 1) := by
  rw [tx, if_pos h, e]
  simp only [h2, if_true, if_pos h3]
theorem prs_in {c x p nx : Nat} (h : prs cs z c = some (x, p, nx)) : x < 8 ∧ p < 110 ∧ c + 3 ≤ nx ∧ nx ≤ z := by
  have hd2 := dN_le cs z (c + 2)
  unfold prs at h
  split at h
  · rename_i g
    split at h
    · split at h
      · cases h
        rename_i y
        exact ⟨g.1, by omega, by omega, by omega⟩
      · cases h
    · split at h
      · cases h
        rename_i y
        exact ⟨g.1, by omega, by omega, by omega⟩
      · cases h
  · cases h
theorem prs_pl {S : Sm} {q x p : Nat} (W : Wf S n k q) (hx : x < 8) (hp : p < 110) (h : plB S (nI x) (nI p) = true) : plc n k x p := by
  have hn := W.1.2.1
  have hk := W.1.2.2.2.1
  obtain ⟨x', p', e1, e2, h1, h2⟩ := plB_of W (in_to (n := 8) (by omega) hx) h
  have hp' : p' < 100 := by unfold plc at h2; split at h2 <;> omega
  rw [(n_eq (by omega) (by omega)).mp e1, (n_eq (by omega) (by omega)).mp e2]
  exact h2
theorem tryT_ok {R T v : Nat} (hTR : T + 2 ≤ R) (hz : z ≤ 60) : ∀ f c t k' (M : Mm) (S : Sm) (q : Nat), z - c < f → f < k' → 3 * t ≤ c → c ≤ z → M T 0 = nI z → (∀ j, j < z → M (T + 1) j = cs j) → M R 1 = nI t → M R 2 = nI c → M R 3 = nI 0 → RW M (R + 1) S n k q →
    ∃ M', l_X4_tryText_7 R v T k' M (nI t) = some (nI 0, M') ∧ M' R 3 = nI (tx n k cs z f c S q t).1 ∧ M' R 2 = nI (tx n k cs z f c S q t).2.1 ∧ M' R 1 = nI (tx n k cs z f c S q t).2.2.1 ∧ RW M' (R + 1) (tx n k cs z f c S q t).2.2.2.1 n k (tx n k cs z f c S q t).2.2.2.2 ∧
      (∀ b, b ≠ T → (b < R ∨ R + 33 ≤ b) → M' b = M b) ∧ M' T 0 = nI z := by
  intro f
  induction f with
  | zero => intro c t k' M S q h; omega
  | succ f ih =>
    intro c t k' M S q hf hk' htc hcz h0 hc h1 h2 h3 hW
    obtain ⟨k'', rfl⟩ : ∃ x, k' = x + 1 := ⟨k' - 1, by omega⟩
    rw [l_X4_tryText_7, if_pos (show nI t < 60 by rw [show (60 : Int32) = nI 60 from rfl, n_lt (by omega) (by omega)]; omega), h2, h0]
    by_cases g : c < z
    · rw [if_pos (by rw [n_lt (by omega) (by omega)]; exact g)]
      obtain ⟨b, M1, r1, r2, r3, r4, r5⟩ := read_ok h0 hz hc g
      have hW1 : RW M1 (R + 1) S n k q := hW.kept fun b b1 b2 => r2 b (by omega)
      have stop : ∀ (M2 : Mm) (r : Nat), r ≠ 0 → r < 1000 → RW M2 (R + 1) S n k q → (∀ b, b ≠ T → (b < R ∨ R + 33 ≤ b) → M2 b = M b) → M2 T 0 = nI z → M2 R 1 = nI t → M2 R 2 = nI c → tx n k cs z (f + 1) c S q t = (r, c, t, S, q) →
          ∃ M', b_X4_tryText_88 R v T (l_X4_tryText_7 R v T k'') (mst M2 R 3 (nI r)) (nI t) = some (nI 0, M') ∧ M' R 3 = nI (tx n k cs z (f + 1) c S q t).1 ∧ M' R 2 = nI (tx n k cs z (f + 1) c S q t).2.1 ∧ M' R 1 = nI (tx n k cs z (f + 1) c S q t).2.2.1 ∧ RW M' (R + 1) (tx n k cs z (f + 1) c S q t).2.2.2.1 n k (tx n k cs z (f + 1) c S q t).2.2.2.2 ∧
            (∀ b, b ≠ T → (b < R ∨ R + 33 ≤ b) → M' b = M b) ∧ M' T 0 = nI z := by
        intro M2 r hr hr2 w1 w2 w3 w4 w5 e
        rw [e]
        refine ⟨mst M2 R 3 (nI r), ?_, by rw [mst_at, upd_at], by rw [mst_at, upd_n (by omega), w5], by rw [mst_at, upd_n (by omega), w4], w1.kept fun b b1 b2 => mst_n (by omega), fun b b1 b2 => by rw [mst_n (by omega), w2 b b1 b2], by rw [mst_n (by omega), w3]⟩
        unfold b_X4_tryText_88
        rw [mst_at, upd_at, if_neg (by rw [show (0 : Int32) = nI 0 from rfl, n_eq (by omega) (by omega)]; exact hr)]
        rfl
      have f1 : ∀ b, b ≠ T → (b < R ∨ R + 33 ≤ b) → M1 b = M b := fun b b1 b2 => r2 b b1
      have z1 : M1 T 0 = nI z := by rw [r3 0 (by omega) (by omega) (by omega), h0]
      have t1 : M1 R 1 = nI t := by rw [r2 R (by omega), h1]
      have c1 : M1 R 2 = nI c := by rw [r2 R (by omega), h2]
      rw [r1, obn_s]
      cases hp : prs cs z c with
      | none =>
        rw [r4 hp, if_pos (by decide), bnd_e]
        exact stop M1 1 (by omega) (by omega) hW1 f1 z1 t1 c1 (tx_1 g hp)
      | some e =>
        obtain ⟨x, p, nx⟩ := e
        obtain ⟨q1, q2, q3, q4⟩ := r5 x p nx hp
        obtain ⟨i1, i2, i3, i4⟩ := prs_in hp
        rw [q1, if_neg (by decide), q2, q3, hasPlace_ok hW1, obn_s, show inB (nI x) 0 7 = true from in_to (n := 8) (by omega) i1, Bool.true_and]
        cases g2 : plB S (nI x) (nI p)
        · rw [if_pos (by decide), bnd_e]
          exact stop M1 2 (by omega) (by omega) hW1 f1 z1 t1 c1 (tx_2 g hp g2)
        · have hpl := prs_pl hW1.1 i1 i2 g2
          obtain ⟨M2, s1, s2⟩ := reason_ok hW1 i1 hpl
          have rl := rf_lt S n k x p
          rw [if_neg (by decide), q2, q3, s1, obn_s, bnd_e]
          by_cases g3 : rfS S n k x p = 0
          · rw [g3, tx_g g hp g2 g3]
            have hW2 : RW (mst M2 R 3 (nI 0)) (R + 1) S n k q := (hW1.scr s2).kept fun b b1 b2 => mst_n (by omega)
            obtain ⟨M3, u1, u2, u3⟩ := make_ok hW2 i1 hpl
            have T2 : M2 T = M1 T := s2 T (by omega)
            have k3 : ∀ b, (b ≤ R ∨ R + 33 ≤ b) → M3 b = mst M2 R 3 (nI 0) b := fun b hb => u3 b (by omega)
            have hR : ∀ j, j ≠ 3 → M3 R j = M R j := fun j hj => by rw [k3 R (by omega), mst_at, upd_n hj, s2 R (by omega), r2 R (by omega)]
            have hR3 : M3 R 3 = nI 0 := by rw [k3 R (by omega), mst_at, upd_at]
            have hT : M3 T = M1 T := by rw [k3 T (by omega), mst_n (by omega), T2]
            have f3 : ∀ b, b ≠ T → (b < R ∨ R + 33 ≤ b) → M3 b = M b := fun b b1 b2 => by rw [k3 b (by omega), mst_n (by omega), s2 b (by omega), r2 b b1]
            obtain ⟨M', v1, v2, v3, v4, v5, v6, v7⟩ := ih nx (t + 1) k'' (mst (mst M3 R 1 (nI (t + 1))) R 2 (nI nx)) _ _ (by omega) (by omega) (by omega) i4 (by rw [mst_n (by omega), mst_n (by omega), hT, z1])
              (fun j hj => by rw [mst_n (by omega), mst_n (by omega), f3 (T + 1) (by omega) (by omega), hc j hj]) (by rw [mst_at, upd_n (by omega), mst_at, upd_at]) (by rw [mst_at, upd_at]) (by rw [mst_at, upd_n (by omega), mst_at, upd_n (by omega), hR3])
              (u2.kept fun b b1 b2 => by rw [mst_n (by omega), mst_n (by omega)])
            refine ⟨M', ?_, v2, v3, v4, v5, fun b b1 b2 => by rw [v6 b b1 b2, mst_n (by omega), mst_n (by omega), f3 b b1 b2], v7⟩
            unfold b_X4_tryText_88
            rw [mst_at, upd_at, if_pos (show nI 0 = 0 from rfl), mst_n (show T ≠ R by omega), T2, q2, q3, u1, obn_s, bnd_e, hR 1 (by omega), h1, bnd_e, mst_n (show T ≠ R by omega), hT, q4, show (1 : Int32) = nI 1 from rfl, nI_add, v1]
          · exact stop M2 _ g3 rl (hW1.scr s2) (fun b b1 b2 => by rw [s2 b (by omega), f1 b b1 b2]) (by rw [s2 T (by omega), z1]) (by rw [s2 R (by omega), t1]) (by rw [s2 R (by omega), c1]) (tx_r g hp g2 g3)
    · rw [if_neg (by rw [n_lt (by omega) (by omega)]; exact g), tx_e g]
      exact ⟨M, rfl, h3, h2, h1, hW, fun b _ _ => rfl, h0⟩
end E5
