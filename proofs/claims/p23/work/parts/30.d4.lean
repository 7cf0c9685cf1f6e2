/-! pool, clock, sections and isolators that come -/
section S4
variable {M : Mm} {X m : Nat}
theorem nI_int {a : Nat} (h : a < 2147483648) : (nI a).toInt = a := by
  show (Int32.ofNat a).toInt = a
  rw [Int32.toInt_ofNat_of_lt (by omega)]
theorem in_nat {x : Int32} {a b : Nat} (hb : b < 200000) (ha : a ≤ b) (h : inB x (nI a) (nI b) = true) : ∃ t, a ≤ t ∧ t ≤ b ∧ x = nI t := by
  unfold inB at h
  rw [decide_eq_true_eq, Int32.lt_iff_toInt_lt, Int32.lt_iff_toInt_lt, nI_int (by omega), nI_int (by omega)] at h
  refine ⟨x.toInt.toNat, by omega, by omega, ?_⟩
  rw [← Int32.toInt_inj, nI_int (by omega)]
  omega
theorem RW.setG {w n k q : Nat} {S : Sm} (h : RW M w S n k q) {j t : Nat} (hj : (j = 2 ∧ t = 1) ∨ (j = 3 ∧ t = 0) ∨ (j = 6 ∧ t = 2)) (x : Int32) : RW (mst M (w + 8) t x) w (upd S j x) n k q := by
  obtain ⟨W, hN, hS, hL⟩ := h
  have hn := W.1.2.1
  have hk := W.1.2.2.2.1
  have hj7 : j < 7 := by omega
  refine ⟨W.setG (by omega) x, ?_, ⟨?_, fun s hs => ?_, fun s h1 h2 => ?_⟩, ?_⟩
  · exact nN_S (fun s hs => by rw [aO_u (by omega)]) (fun i hi t ht => by rw [aI_u (by omega)]) (nN_kept (fun b h1 h2 => mst_n (by omega)) hN)
  · obtain ⟨g1, g2, g3⟩ := hS.1
    rcases hj with ⟨rfl, rfl⟩ | ⟨rfl, rfl⟩ | ⟨rfl, rfl⟩
    · rw [mst_at, upd_at, upd_at, upd_n (by omega), upd_n (by omega), upd_n (by omega), upd_n (by omega)]
      exact ⟨g1, rfl, g3⟩
    · rw [mst_at, upd_at, upd_at, upd_n (by omega), upd_n (by omega), upd_n (by omega), upd_n (by omega)]
      exact ⟨rfl, g2, g3⟩
    · rw [mst_at, upd_at, upd_at, upd_n (by omega), upd_n (by omega), upd_n (by omega), upd_n (by omega)]
      exact ⟨g1, g2, rfl⟩
  · rw [mst_n (by omega), mst_n (by omega), mst_n (by omega), mst_n (by omega), mst_n (by omega), mst_n (by omega), mst_n (by omega)]
    rw [aO_u (by omega), aO_u (by omega), aO_u (by omega), aO_u (by omega), bS_u (by omega), bS_u (by omega), bS_u (by omega)]
    exact hS.2.1 s hs
  · rw [mst_n (by omega), mst_n (by omega), mst_n (by omega), mst_n (by omega)]
    exact hS.2.2 s h1 h2
  · refine lB_c ?_ (fun t ht i hi => by rw [aL_u (by omega)]) (fun s hs => by rw [aO_u (by omega)]) (fun i hi => by rw [aI_u (by omega)]) (lB_kept (fun b h1 h2 => mst_n (by omega)) hL)
    rw [upd_n (by omega)]
theorem in01 {x : Int32} (h : inB x 0 1 = true) : ∃ f : Bool, x = nI f.toNat := by
  obtain ⟨t, t1, t2, rfl⟩ := in_nat (a := 0) (b := 1) (by omega) (by omega) h
  rcases (show t = 0 ∨ t = 1 by omega) with rfl | rfl
  · exact ⟨false, rfl⟩
  · exact ⟨true, rfl⟩
variable {S : Sm} {h : List Sm} {t : List Int32}
def oPo (S : Sm) (x : Int32) : Int32 × Option Sm :=
  if inB x 0 40 = true then (if x < sumI (buS S) (nn S) then (-2, none) else (frS (upd S 2 x) (nn S), some (upd S 2 x))) else (-1, none)
theorem t_pool (H : P M X S h t) (x : Int32) : Chg X S h t (f_X8_pool X M x) M (oPo S x) := by
  have h1 := H.1
  have hn := h1.nlow
  have b1 := bridging_ok hn h1.2.2.1
  unfold oPo
  by_cases g : inB x 0 40 = true
  · rw [if_pos g]
    by_cases g2 : x < sumI (buS S) (nn S)
    · rw [if_pos g2]
      refine ⟨M, ?_, H, Fr.rf⟩
      show f_X8_pool X M x = _
      unfold f_X8_pool
      rw [outside_ok, g, Bool.not_true, obn_s, if_pos (by decide), b1, obn_s, if_pos g2]
    · rw [if_neg g2]
      obtain ⟨M1, k1, k2, k3⟩ := mutP H
      have h2 := (h1.kept (M' := M1) fun b b1 b2 => k2 b (by omega)).setG (Or.inl ⟨rfl, rfl⟩) x
      have b3 := freeBuses_ok hn h2.2.2.1
      obtain ⟨q1, q2⟩ := k3 (mst M1 (X + 1 + 8) 1 x) _ _ _ _ (fun b hb => mst_n (by omega)) h2 (H.2.2.2.1.of (upd_n (by omega)) fun s hs => ⟨aO_u (by omega), aO_u (by omega)⟩)
      refine ⟨mst M1 (X + 1 + 8) 1 x, ?_, q1, q2⟩
      show f_X8_pool X M x = _
      unfold f_X8_pool
      rw [outside_ok, g, Bool.not_true, obn_s, if_pos (by decide), b1, obn_s, if_neg g2, k1, obn_s, bnd_e, b3, obn_s]
  · have g3 : inB x 0 40 = false := by simpa using g
    rw [if_neg g]
    refine ⟨M, ?_, H, Fr.rf⟩
    show f_X8_pool X M x = _
    unfold f_X8_pool
    rw [outside_ok, g3, Bool.not_false, obn_s, if_neg (by decide)]
def oPa (S : Sm) (x : Int32) : Int32 × Option Sm :=
  if inB x 1 10000 = true then (if 100000 < S 3 + x then (-3, none) else (S 3 + x, some (upd S 3 (S 3 + x)))) else (-1, none)
theorem t_pass (H : P M X S h t) (x : Int32) : Chg X S h t (f_X8_pass X M x) M (oPa S x) := by
  have h1 := H.1
  have c0 : M (X + 1 + 8) 0 = S 3 := h1.2.2.1.1.1
  unfold oPa
  by_cases g : inB x 1 10000 = true
  · rw [if_pos g]
    obtain ⟨y, t1, t2, rfl⟩ := in_nat (a := 1) (b := 10000) (by omega) (by omega) g
    obtain ⟨c, c1, c2⟩ := H.2.2.2.1.1
    by_cases g2 : (100000 : Int32) < S 3 + nI y
    · rw [if_pos g2]
      refine ⟨M, ?_, H, Fr.rf⟩
      show f_X8_pass X M _ = _
      unfold f_X8_pass
      rw [outside_ok, g, Bool.not_true, obn_s, if_pos (by decide), c0, if_pos g2]
    · have g3 : c + y ≤ 100000 := by
        rw [c2, nI_add, show (100000 : Int32) = nI 100000 from rfl, n_lt (by omega) (by omega)] at g2
        omega
      rw [if_neg g2]
      obtain ⟨M1, k1, k2, k3⟩ := mutP H
      have h2 := (h1.kept (M' := M1) fun b b1 b2 => k2 b (by omega)).setG (Or.inr (Or.inl ⟨rfl, rfl⟩)) (S 3 + nI y)
      have cc : M1 (X + 1 + 8) 0 = S 3 := by rw [k2 _ (by omega), c0]
      obtain ⟨q1, q2⟩ := k3 (mst M1 (X + 1 + 8) 0 (S 3 + nI y)) _ _ _ _ (fun b hb => mst_n (by omega)) h2 ⟨⟨c + y, g3, by rw [upd_at, c2, nI_add]⟩, fun s hs hb => by
        rw [bS_u (by omega)] at hb
        rw [aO_u (by omega)]
        exact H.2.2.2.1.2 s hs hb⟩
      refine ⟨mst M1 (X + 1 + 8) 0 (S 3 + nI y), ?_, q1, q2⟩
      show f_X8_pass X M _ = _
      unfold f_X8_pass
      rw [outside_ok, g, Bool.not_true, obn_s, if_pos (by decide), c0, if_neg g2, k1, obn_s, bnd_e, cc, mst_at, upd_at]
  · have g3 : inB x 1 10000 = false := by simpa using g
    rw [if_neg g]
    refine ⟨M, ?_, H, Fr.rf⟩
    show f_X8_pass X M x = _
    unfold f_X8_pass
    rw [outside_ok, g3, Bool.not_false, obn_s, if_neg (by decide)]
def oSe (S : Sm) (x y : Int32) : Int32 × Option Sm :=
  if (inB x 1 9 && inB y 0 1) = true then (if nn S = 10 then (-3, none) else (nI (nn S), some (nsS S (nn S) (ix x) (decide (y = nI 1))))) else (-1, none)
theorem Tm.ns {S : Sm} {n k q u : Nat} {f : Bool} (hW : Wf S n k q) (hn : n < 10) (hT : Tm S) : Tm (nsS S n u f) := by
  refine ⟨?_, fun s hs hb => ?_⟩
  · rw [ns_g (by omega) (by omega)]
    exact hT.1
  · unfold bS at hb
    have hb := of_decide_eq_true hb
    by_cases y : s = n
    · rw [y, ns_z (by omega) (by omega)] at hb
      exact absurd hb (by decide)
    · have e : ∀ j, j < 9 → aO (nsS S n u f) s j = aO S s j := fun j hj => by
        unfold aO nsS
        rw [if_neg (by omega), if_neg (by omega)]
      rw [e 4 (by omega)] at hb
      rw [e 6 (by omega)]
      exact hT.2 s hs (decide_eq_true hb)
theorem t_section (H : P M X S h t) (x y : Int32) : Chg X S h t (f_X8_section X M x y) M (oSe S x y) := by
  have h1 := H.1
  have hn := h1.nlow
  have hc : M (X + 1 + 1) 0 = nI (nn S) := h1.n0
  unfold oSe
  by_cases g : inB x 1 9 = true
  · by_cases g2 : inB y 0 1 = true
    · rw [if_pos (by rw [g, g2]; rfl)]
      obtain ⟨u, t1, t2, rfl⟩ := in_nat (a := 1) (b := 9) (by omega) (by omega) g
      obtain ⟨f, rfl⟩ := in01 g2
      by_cases g3 : nn S = 10
      · rw [if_pos g3]
        refine ⟨M, ?_, H, Fr.rf⟩
        show f_X8_section X M _ _ = _
        unfold f_X8_section
        rw [outside_ok, g, Bool.not_true, obn_s, if_pos (by decide), outside_ok, g2, Bool.not_true, obn_s, if_pos (by decide), hc, g3, if_neg (by decide)]
      · rw [if_neg g3]
        have hn' : nn S < 10 := by omega
        obtain ⟨M1, k1, k2, k3⟩ := mutP H
        have ef : decide (nI f.toNat = nI 1) = f := by cases f <;> decide
        obtain ⟨M2, p1, p2, p3⟩ := addSec_ok (h1.kept (M' := M1) fun b b1 b2 => k2 b (by omega)) hn' (t := u) f
        obtain ⟨q1, q2⟩ := k3 M2 _ _ _ _ (fun b hb => p3 b (by omega)) p2 (Tm.ns h1.1 hn' H.2.2.2.1)
        rw [show ix (nI u) = u from n_ix (by omega), ef]
        refine ⟨M2, ?_, q1, q2⟩
        show f_X8_section X M _ _ = _
        unfold f_X8_section b_X8_section_65
        rw [outside_ok, g, Bool.not_true, obn_s, if_pos (by decide), outside_ok, g2, Bool.not_true, obn_s, if_pos (by decide), hc, show (10 : Int32) = nI 10 from rfl, if_pos (by rw [n_lt (by omega) (by omega)]; exact hn'), k1, obn_s]
        cases f
        · rw [if_neg (by decide), show (0 : Int32) = nI (2 * false.toNat) from rfl, p1, obn_s]
        · rw [if_pos (by decide), show (2 : Int32) = nI (2 * true.toNat) from rfl, p1, obn_s]
    · have g3 : inB y 0 1 = false := by simpa using g2
      rw [if_neg (by rw [g3, Bool.and_false]; decide)]
      refine ⟨M, ?_, H, Fr.rf⟩
      show f_X8_section X M _ _ = _
      unfold f_X8_section b_X8_section_19
      rw [outside_ok, g, Bool.not_true, obn_s, if_pos (by decide), outside_ok, g3, Bool.not_false, obn_s, if_neg (by decide)]
  · have g3 : inB x 1 9 = false := by simpa using g
    rw [if_neg (by rw [g3, Bool.false_and]; decide)]
    refine ⟨M, ?_, H, Fr.rf⟩
    show f_X8_section X M _ _ = _
    unfold f_X8_section b_X8_section_19
    rw [outside_ok, g3, Bool.not_false, obn_s, if_neg (by decide)]
end S4
