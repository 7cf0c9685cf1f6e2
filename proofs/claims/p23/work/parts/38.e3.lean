/-! the text, read -/
section E3
variable {M : Mm} {X m n k q w T c z : Nat} {S : Sm} {cs : Nat → Int32}
def kN (x : Int32) : Nat := if x = 98 then 0 else if x = 99 then 3 else if x = 101 then 6 else if x = 102 then 4 else if x = 110 then 5 else if x = 111 then 2 else if x = 116 then 1 else if x = 117 then 7 else 8
def dN (cs : Nat → Int32) (z c : Nat) : Nat := if c < z ∧ inB (cs c) 48 57 = true then ix (cs c) - 48 else 10
def kV (t : Nat) : Int32 := if t < 8 then nI t else -1
def dV (t : Nat) : Int32 := if t < 10 then nI t else -1
theorem kind_ok (M : Mm) (x : Int32) : f_X6_kindOf M x = some (kV (kN x), M) := by
  unfold f_X6_kindOf b_X6_kindOf_114
  by_cases g98 : x = 98
  · subst g98
    rw [if_pos rfl]; rfl
  by_cases g99 : x = 99
  · subst g99
    rw [if_neg (show ¬ (99 : Int32) = 98 by decide), if_pos rfl]; rfl
  by_cases g100 : x = 100
  · subst g100
    rw [if_neg (show ¬ (100 : Int32) = 98 by decide), if_neg (show ¬ (100 : Int32) = 99 by decide), if_pos rfl]; rfl
  by_cases g101 : x = 101
  · subst g101
    rw [if_neg (show ¬ (101 : Int32) = 98 by decide), if_neg (show ¬ (101 : Int32) = 99 by decide), if_neg (show ¬ (101 : Int32) = 100 by decide), if_pos rfl]; rfl
  by_cases g102 : x = 102
  · subst g102
    rw [if_neg (show ¬ (102 : Int32) = 98 by decide), if_neg (show ¬ (102 : Int32) = 99 by decide), if_neg (show ¬ (102 : Int32) = 100 by decide), if_neg (show ¬ (102 : Int32) = 101 by decide), if_pos rfl]; rfl
  by_cases g103 : x = 103
  · subst g103
    rw [if_neg (show ¬ (103 : Int32) = 98 by decide), if_neg (show ¬ (103 : Int32) = 99 by decide), if_neg (show ¬ (103 : Int32) = 100 by decide), if_neg (show ¬ (103 : Int32) = 101 by decide), if_neg (show ¬ (103 : Int32) = 102 by decide), if_pos rfl]; rfl
  by_cases g104 : x = 104
  · subst g104
    rw [if_neg (show ¬ (104 : Int32) = 98 by decide), if_neg (show ¬ (104 : Int32) = 99 by decide), if_neg (show ¬ (104 : Int32) = 100 by decide), if_neg (show ¬ (104 : Int32) = 101 by decide), if_neg (show ¬ (104 : Int32) = 102 by decide), if_neg (show ¬ (104 : Int32) = 103 by decide), if_pos rfl]; rfl
  by_cases g105 : x = 105
  · subst g105
    rw [if_neg (show ¬ (105 : Int32) = 98 by decide), if_neg (show ¬ (105 : Int32) = 99 by decide), if_neg (show ¬ (105 : Int32) = 100 by decide), if_neg (show ¬ (105 : Int32) = 101 by decide), if_neg (show ¬ (105 : Int32) = 102 by decide), if_neg (show ¬ (105 : Int32) = 103 by decide), if_neg (show ¬ (105 : Int32) = 104 by decide), if_pos rfl]; rfl
  by_cases g106 : x = 106
  · subst g106
    rw [if_neg (show ¬ (106 : Int32) = 98 by decide), if_neg (show ¬ (106 : Int32) = 99 by decide), if_neg (show ¬ (106 : Int32) = 100 by decide), if_neg (show ¬ (106 : Int32) = 101 by decide), if_neg (show ¬ (106 : Int32) = 102 by decide), if_neg (show ¬ (106 : Int32) = 103 by decide), if_neg (show ¬ (106 : Int32) = 104 by decide), if_neg (show ¬ (106 : Int32) = 105 by decide), if_pos rfl]; rfl
  by_cases g107 : x = 107
  · subst g107
    rw [if_neg (show ¬ (107 : Int32) = 98 by decide), if_neg (show ¬ (107 : Int32) = 99 by decide), if_neg (show ¬ (107 : Int32) = 100 by decide), if_neg (show ¬ (107 : Int32) = 101 by decide), if_neg (show ¬ (107 : Int32) = 102 by decide), if_neg (show ¬ (107 : Int32) = 103 by decide), if_neg (show ¬ (107 : Int32) = 104 by decide), if_neg (show ¬ (107 : Int32) = 105 by decide), if_neg (show ¬ (107 : Int32) = 106 by decide), if_pos rfl]; rfl
  by_cases g108 : x = 108
  · subst g108
    rw [if_neg (show ¬ (108 : Int32) = 98 by decide), if_neg (show ¬ (108 : Int32) = 99 by decide), if_neg (show ¬ (108 : Int32) = 100 by decide), if_neg (show ¬ (108 : Int32) = 101 by decide), if_neg (show ¬ (108 : Int32) = 102 by decide), if_neg (show ¬ (108 : Int32) = 103 by decide), if_neg (show ¬ (108 : Int32) = 104 by decide), if_neg (show ¬ (108 : Int32) = 105 by decide), if_neg (show ¬ (108 : Int32) = 106 by decide), if_neg (show ¬ (108 : Int32) = 107 by decide), if_pos rfl]; rfl
  by_cases g109 : x = 109
  · subst g109
    rw [if_neg (show ¬ (109 : Int32) = 98 by decide), if_neg (show ¬ (109 : Int32) = 99 by decide), if_neg (show ¬ (109 : Int32) = 100 by decide), if_neg (show ¬ (109 : Int32) = 101 by decide), if_neg (show ¬ (109 : Int32) = 102 by decide), if_neg (show ¬ (109 : Int32) = 103 by decide), if_neg (show ¬ (109 : Int32) = 104 by decide), if_neg (show ¬ (109 : Int32) = 105 by decide), if_neg (show ¬ (109 : Int32) = 106 by decide), if_neg (show ¬ (109 : Int32) = 107 by decide), if_neg (show ¬ (109 : Int32) = 108 by decide), if_pos rfl]; rfl
  by_cases g110 : x = 110
  · subst g110
    rw [if_neg (show ¬ (110 : Int32) = 98 by decide), if_neg (show ¬ (110 : Int32) = 99 by decide), if_neg (show ¬ (110 : Int32) = 100 by decide), if_neg (show ¬ (110 : Int32) = 101 by decide), if_neg (show ¬ (110 : Int32) = 102 by decide), if_neg (show ¬ (110 : Int32) = 103 by decide), if_neg (show ¬ (110 : Int32) = 104 by decide), if_neg (show ¬ (110 : Int32) = 105 by decide), if_neg (show ¬ (110 : Int32) = 106 by decide), if_neg (show ¬ (110 : Int32) = 107 by decide), if_neg (show ¬ (110 : Int32) = 108 by decide), if_neg (show ¬ (110 : Int32) = 109 by decide), if_pos rfl]; rfl
  by_cases g111 : x = 111
  · subst g111
    rw [if_neg (show ¬ (111 : Int32) = 98 by decide), if_neg (show ¬ (111 : Int32) = 99 by decide), if_neg (show ¬ (111 : Int32) = 100 by decide), if_neg (show ¬ (111 : Int32) = 101 by decide), if_neg (show ¬ (111 : Int32) = 102 by decide), if_neg (show ¬ (111 : Int32) = 103 by decide), if_neg (show ¬ (111 : Int32) = 104 by decide), if_neg (show ¬ (111 : Int32) = 105 by decide), if_neg (show ¬ (111 : Int32) = 106 by decide), if_neg (show ¬ (111 : Int32) = 107 by decide), if_neg (show ¬ (111 : Int32) = 108 by decide), if_neg (show ¬ (111 : Int32) = 109 by decide), if_neg (show ¬ (111 : Int32) = 110 by decide), if_pos rfl]; rfl
  by_cases g112 : x = 112
  · subst g112
    rw [if_neg (show ¬ (112 : Int32) = 98 by decide), if_neg (show ¬ (112 : Int32) = 99 by decide), if_neg (show ¬ (112 : Int32) = 100 by decide), if_neg (show ¬ (112 : Int32) = 101 by decide), if_neg (show ¬ (112 : Int32) = 102 by decide), if_neg (show ¬ (112 : Int32) = 103 by decide), if_neg (show ¬ (112 : Int32) = 104 by decide), if_neg (show ¬ (112 : Int32) = 105 by decide), if_neg (show ¬ (112 : Int32) = 106 by decide), if_neg (show ¬ (112 : Int32) = 107 by decide), if_neg (show ¬ (112 : Int32) = 108 by decide), if_neg (show ¬ (112 : Int32) = 109 by decide), if_neg (show ¬ (112 : Int32) = 110 by decide), if_neg (show ¬ (112 : Int32) = 111 by decide), if_pos rfl]; rfl
  by_cases g113 : x = 113
  · subst g113
    rw [if_neg (show ¬ (113 : Int32) = 98 by decide), if_neg (show ¬ (113 : Int32) = 99 by decide), if_neg (show ¬ (113 : Int32) = 100 by decide), if_neg (show ¬ (113 : Int32) = 101 by decide), if_neg (show ¬ (113 : Int32) = 102 by decide), if_neg (show ¬ (113 : Int32) = 103 by decide), if_neg (show ¬ (113 : Int32) = 104 by decide), if_neg (show ¬ (113 : Int32) = 105 by decide), if_neg (show ¬ (113 : Int32) = 106 by decide), if_neg (show ¬ (113 : Int32) = 107 by decide), if_neg (show ¬ (113 : Int32) = 108 by decide), if_neg (show ¬ (113 : Int32) = 109 by decide), if_neg (show ¬ (113 : Int32) = 110 by decide), if_neg (show ¬ (113 : Int32) = 111 by decide), if_neg (show ¬ (113 : Int32) = 112 by decide), if_pos rfl]; rfl
  by_cases g114 : x = 114
  · subst g114
    rw [if_neg (show ¬ (114 : Int32) = 98 by decide), if_neg (show ¬ (114 : Int32) = 99 by decide), if_neg (show ¬ (114 : Int32) = 100 by decide), if_neg (show ¬ (114 : Int32) = 101 by decide), if_neg (show ¬ (114 : Int32) = 102 by decide), if_neg (show ¬ (114 : Int32) = 103 by decide), if_neg (show ¬ (114 : Int32) = 104 by decide), if_neg (show ¬ (114 : Int32) = 105 by decide), if_neg (show ¬ (114 : Int32) = 106 by decide), if_neg (show ¬ (114 : Int32) = 107 by decide), if_neg (show ¬ (114 : Int32) = 108 by decide), if_neg (show ¬ (114 : Int32) = 109 by decide), if_neg (show ¬ (114 : Int32) = 110 by decide), if_neg (show ¬ (114 : Int32) = 111 by decide), if_neg (show ¬ (114 : Int32) = 112 by decide), if_neg (show ¬ (114 : Int32) = 113 by decide), if_pos rfl]; rfl
  by_cases g115 : x = 115
  · subst g115
    rw [if_neg (show ¬ (115 : Int32) = 98 by decide), if_neg (show ¬ (115 : Int32) = 99 by decide), if_neg (show ¬ (115 : Int32) = 100 by decide), if_neg (show ¬ (115 : Int32) = 101 by decide), if_neg (show ¬ (115 : Int32) = 102 by decide), if_neg (show ¬ (115 : Int32) = 103 by decide), if_neg (show ¬ (115 : Int32) = 104 by decide), if_neg (show ¬ (115 : Int32) = 105 by decide), if_neg (show ¬ (115 : Int32) = 106 by decide), if_neg (show ¬ (115 : Int32) = 107 by decide), if_neg (show ¬ (115 : Int32) = 108 by decide), if_neg (show ¬ (115 : Int32) = 109 by decide), if_neg (show ¬ (115 : Int32) = 110 by decide), if_neg (show ¬ (115 : Int32) = 111 by decide), if_neg (show ¬ (115 : Int32) = 112 by decide), if_neg (show ¬ (115 : Int32) = 113 by decide), if_neg (show ¬ (115 : Int32) = 114 by decide), if_pos rfl]; rfl
  by_cases g116 : x = 116
  · subst g116
    rw [if_neg (show ¬ (116 : Int32) = 98 by decide), if_neg (show ¬ (116 : Int32) = 99 by decide), if_neg (show ¬ (116 : Int32) = 100 by decide), if_neg (show ¬ (116 : Int32) = 101 by decide), if_neg (show ¬ (116 : Int32) = 102 by decide), if_neg (show ¬ (116 : Int32) = 103 by decide), if_neg (show ¬ (116 : Int32) = 104 by decide), if_neg (show ¬ (116 : Int32) = 105 by decide), if_neg (show ¬ (116 : Int32) = 106 by decide), if_neg (show ¬ (116 : Int32) = 107 by decide), if_neg (show ¬ (116 : Int32) = 108 by decide), if_neg (show ¬ (116 : Int32) = 109 by decide), if_neg (show ¬ (116 : Int32) = 110 by decide), if_neg (show ¬ (116 : Int32) = 111 by decide), if_neg (show ¬ (116 : Int32) = 112 by decide), if_neg (show ¬ (116 : Int32) = 113 by decide), if_neg (show ¬ (116 : Int32) = 114 by decide), if_neg (show ¬ (116 : Int32) = 115 by decide), if_pos rfl]; rfl
  by_cases g117 : x = 117
  · subst g117
    rw [if_neg (show ¬ (117 : Int32) = 98 by decide), if_neg (show ¬ (117 : Int32) = 99 by decide), if_neg (show ¬ (117 : Int32) = 100 by decide), if_neg (show ¬ (117 : Int32) = 101 by decide), if_neg (show ¬ (117 : Int32) = 102 by decide), if_neg (show ¬ (117 : Int32) = 103 by decide), if_neg (show ¬ (117 : Int32) = 104 by decide), if_neg (show ¬ (117 : Int32) = 105 by decide), if_neg (show ¬ (117 : Int32) = 106 by decide), if_neg (show ¬ (117 : Int32) = 107 by decide), if_neg (show ¬ (117 : Int32) = 108 by decide), if_neg (show ¬ (117 : Int32) = 109 by decide), if_neg (show ¬ (117 : Int32) = 110 by decide), if_neg (show ¬ (117 : Int32) = 111 by decide), if_neg (show ¬ (117 : Int32) = 112 by decide), if_neg (show ¬ (117 : Int32) = 113 by decide), if_neg (show ¬ (117 : Int32) = 114 by decide), if_neg (show ¬ (117 : Int32) = 115 by decide), if_neg (show ¬ (117 : Int32) = 116 by decide), if_pos rfl]; rfl
  have e : kN x = 8 := by
    unfold kN
    rw [if_neg g98, if_neg g99, if_neg g101, if_neg g102, if_neg g110, if_neg g111, if_neg g116, if_neg g117]
  rw [e]
  simp only [g98, g99, g100, g101, g102, g103, g104, g105, g106, g107, g108, g109, g110, g111, g112, g113, g114, g115, g116, g117, if_false]
  rfl
theorem dN_le (cs : Nat → Int32) (z c : Nat) : dN cs z c ≤ 10 := by
  unfold dN
  split
  · rename_i h
    obtain ⟨t, t1, t2, t3⟩ := in_nat (a := 48) (b := 57) (by omega) (by omega) h.2
    rw [t3, show ix (nI t) = t from n_ix (by omega)]
    omega
  · exact Nat.le_refl _
theorem dV_m1 {t : Nat} : (dV t = -1) = ¬ t < 10 := by
  unfold dV
  by_cases h : t < 10
  · rw [if_pos h]
    apply propext
    constructor
    · intro e
      have := congrArg Int32.toInt e
      rw [nI_int (by omega), show (-1 : Int32).toInt = -1 by decide] at this
      omega
    · intro e; exact absurd h e
  · rw [if_neg h]
    simp [h]
theorem kV_m1 {t : Nat} : (kV t = -1) = ¬ t < 8 := by
  unfold kV
  by_cases h : t < 8
  · rw [if_pos h]
    apply propext
    constructor
    · intro e
      have := congrArg Int32.toInt e
      rw [nI_int (by omega), show (-1 : Int32).toInt = -1 by decide] at this
      omega
    · intro e; exact absurd h e
  · rw [if_neg h]
    simp [h]
theorem kV_neg {t : Nat} : (kV t < 0) = ¬ t < 8 := by
  unfold kV
  by_cases h : t < 8
  · rw [if_pos h, show (0 : Int32) = nI 0 from rfl, n_lt (by omega) (by omega)]
    simp [h]
  · rw [if_neg h]
    simp only [h, not_false_eq_true]
    decide
/-- one step of the text: its kind, its place, where the next begins -/
def prs (cs : Nat → Int32) (z c : Nat) : Option (Nat × Nat × Nat) :=
  if kN (cs c) < 8 ∧ dN cs z (c + 1) < 10 then
    (if dN cs z (c + 2) < 10 then (if c + 3 < z ∧ cs (c + 3) = 59 then some (kN (cs c), 10 * dN cs z (c + 1) + dN cs z (c + 2), c + 4) else none)
     else (if c + 2 < z ∧ cs (c + 2) = 59 then some (kN (cs c), dN cs z (c + 1), c + 3) else none))
  else none
theorem char_ok (h0 : M T 0 = nI z) (hz : z ≤ 60) (hc : ∀ j, j < z → M (T + 1) j = cs j) {c : Nat} (hc2 : c < 1000) : f_X6_characterAt T M (nI c) = some (if c < z then cs c else nI 0, M) := by
  unfold f_X6_characterAt b_X6_characterAt_24
  rw [outside_ok, h0]
  by_cases g : c < z
  · have e : inB (nI c) 0 (nI z - 1) = true := in_to (by omega) g
    rw [e, Bool.not_true, obn_s, if_pos (by decide), if_pos g, n_ckd (by omega) (by omega), show ix (nI c) = c from n_ix (by omega), hc c g]
  · have e : inB (nI c) 0 (nI z - 1) = false := by
      rw [← Bool.not_eq_true]
      intro e
      obtain ⟨s, h1, h2⟩ := in_of (n := z) (by omega) e
      have := (n_eq (by omega) (by omega)).mp h2
      omega
    rw [e, Bool.not_false, obn_s, if_neg (by decide), if_neg g]
    rfl
theorem digit_ok (h0 : M T 0 = nI z) (hz : z ≤ 60) (hc : ∀ j, j < z → M (T + 1) j = cs j) {c : Nat} (hc2 : c < 1000) : f_X6_digitAt T M (nI c) = some (dV (dN cs z c), M) := by
  unfold f_X6_digitAt b_X6_digitAt_25
  rw [char_ok h0 hz hc hc2, obn_s, outside_ok]
  by_cases g : c < z
  · rw [if_pos g]
    by_cases g2 : inB (cs c) 48 57 = true
    · obtain ⟨t, t1, t2, t3⟩ := in_nat (a := 48) (b := 57) (by omega) (by omega) g2
      rw [g2, Bool.not_true, obn_s, if_pos (by decide)]
      have e : dN cs z c = t - 48 := by
        unfold dN
        rw [if_pos ⟨g, g2⟩, t3, show ix (nI t) = t from n_ix (by omega)]
      unfold dV
      rw [e, t3, if_pos (by omega), show (48 : Int32) = nI 48 from rfl, n_sub t1]
    · have e : dN cs z c = 10 := by
        unfold dN
        rw [if_neg (fun h => g2 h.2)]
      have g2 : inB (cs c) 48 57 = false := by simpa using g2
      rw [g2, Bool.not_false, obn_s, if_neg (by decide), e]
      rfl
  · have e : dN cs z c = 10 := by
      unfold dN
      rw [if_neg (fun h => g h.1)]
    rw [if_neg g, show inB (nI 0) 48 57 = false by decide, Bool.not_false, obn_s, if_neg (by decide), e]
    rfl
theorem read_ok (h0 : M T 0 = nI z) (hz : z ≤ 60) (hc : ∀ j, j < z → M (T + 1) j = cs j) (hcz : c < z) : ∃ (b : Bool) (M' : Mm), f_X6_readStep T M (nI c) = some (nI b.toNat, M') ∧ (∀ a, a ≠ T → M' a = M a) ∧ (∀ j, j ≠ 2 → j ≠ 3 → j ≠ 4 → M' T j = M T j) ∧
    (prs cs z c = none → b = false) ∧ ∀ x p nx, prs cs z c = some (x, p, nx) → b = true ∧ M' T 2 = nI x ∧ M' T 3 = nI p ∧ M' T 4 = nI nx := by
  have hd1 := dN_le cs z (c + 1)
  have hd2 := dN_le cs z (c + 2)
  generalize hM1 : mst M T 2 (kV (kN (cs c))) = M1
  have a0 : M1 T 0 = nI z := by rw [← hM1, mst_at, upd_n (by omega), h0]
  have ac : ∀ j, j < z → M1 (T + 1) j = cs j := fun j hj => by rw [← hM1, mst_n (by omega), hc j hj]
  have a2 : M1 T 2 = kV (kN (cs c)) := by rw [← hM1, mst_at, upd_at]
  have k1 : ∀ a, a ≠ T → M1 a = M a := fun a ha => by rw [← hM1, mst_n ha]
  have kj : ∀ j, j ≠ 2 → M1 T j = M T j := fun j hj => by rw [← hM1, mst_at, upd_n hj]
  have d1 := digit_ok a0 hz ac (show c + 1 < 1000 by omega)
  have d2 := digit_ok a0 hz ac (show c + 2 < 1000 by omega)
  have start : f_X6_readStep T M (nI c) = if kV (kN (cs c)) = -1 then b_X6_readStep_33 T M1 else if dV (dN cs z (c + 1)) = -1 then b_X6_readStep_33 T M1 else if dV (dN cs z (c + 2)) = -1 then b_X6_readStep_53 T M1 (nI c) (dV (dN cs z (c + 1))) (dV (dN cs z (c + 2))) 0 else b_X6_readStep_53 T M1 (nI c) (dV (dN cs z (c + 1))) (dV (dN cs z (c + 2))) 1 := by
    unfold f_X6_readStep
    rw [char_ok h0 hz hc (by omega), obn_s, if_pos hcz, kind_ok M (cs c), obn_s, bnd_e, hM1, show (1 : Int32) = nI 1 from rfl, show (2 : Int32) = nI 2 from rfl, nI_add, nI_add, d1, obn_s, a2, d2, obn_s]
  rw [start]
  by_cases g1 : kN (cs c) < 8
  · rw [if_neg (by rw [kV_m1]; omega)]
    by_cases g2 : dN cs z (c + 1) < 10
    · rw [if_neg (by rw [dV_m1]; omega)]
      have fin : ∀ (p nx : Nat), nx < 900 → 0 < nx → prs cs z c = (if nx - 1 < z ∧ cs (nx - 1) = 59 then some (kN (cs c), p, nx) else none) → ∀ s1 s2 : Int32, s1 + s2 = nI nx →
          ∃ (b : Bool) (M' : Mm), b_X6_readStep_86 T (mst M1 T 3 (nI p)) s1 s2 = some (nI b.toNat, M') ∧ (∀ a, a ≠ T → M' a = M a) ∧ (∀ j, j ≠ 2 → j ≠ 3 → j ≠ 4 → M' T j = M T j) ∧
          (prs cs z c = none → b = false) ∧ ∀ x p nx, prs cs z c = some (x, p, nx) → b = true ∧ M' T 2 = nI x ∧ M' T 3 = nI p ∧ M' T 4 = nI nx := by
        intro p nx h1 h2 h3 s1 s2 h4
        generalize hM2 : mst (mst M1 T 3 (nI p)) T 4 (nI nx) = M2
        have b0 : M2 T 0 = nI z := by rw [← hM2, mst_at, upd_n (by omega), mst_at, upd_n (by omega), a0]
        have bc : ∀ j, j < z → M2 (T + 1) j = cs j := fun j hj => by rw [← hM2, mst_n (by omega), mst_n (by omega), ac j hj]
        have ch := char_ok b0 hz bc (show nx - 1 < 1000 by omega)
        have b4 : M2 T 4 = nI nx := by rw [← hM2, mst_at, upd_at]
        have b3 : M2 T 3 = nI p := by rw [← hM2, mst_at, upd_n (by omega), mst_at, upd_at]
        have b2 : M2 T 2 = nI (kN (cs c)) := by rw [← hM2, mst_at, upd_n (by omega), mst_at, upd_n (by omega), a2]; unfold kV; rw [if_pos g1]
        have kk : ∀ a, a ≠ T → M2 a = M a := fun a ha => by rw [← hM2, mst_n ha, mst_n ha, k1 a ha]
        have kf : ∀ j, j ≠ 2 → j ≠ 3 → j ≠ 4 → M2 T j = M T j := fun j j2 j3 j4 => by rw [← hM2, mst_at, upd_n j4, mst_at, upd_n j3, kj j j2]
        have st : b_X6_readStep_86 T (mst M1 T 3 (nI p)) s1 s2 = if (if nx - 1 < z then cs (nx - 1) else nI 0) = 59 then b_X6_readStep_110 T M2 1 else b_X6_readStep_110 T M2 0 := by
          unfold b_X6_readStep_86
          rw [h4, bnd_e, hM2, b4, show (1 : Int32) = nI 1 from rfl, n_sub (by omega), ch, obn_s]
        rw [st]
        by_cases y : nx - 1 < z ∧ cs (nx - 1) = 59
        · rw [if_pos y.1, if_pos y.2]
          rw [if_pos y] at h3
          refine ⟨true, M2, rfl, kk, kf, fun e => (by rw [h3] at e; cases e), fun x p' nx' e => ?_⟩
          rw [h3] at e
          cases e
          exact ⟨rfl, b2, b3, b4⟩
        · have y2 : ¬ (if nx - 1 < z then cs (nx - 1) else nI 0) = 59 := by
            by_cases y3 : nx - 1 < z
            · rw [if_pos y3]; exact fun e => y ⟨y3, e⟩
            · rw [if_neg y3]; decide
          rw [if_neg y2]
          rw [if_neg y] at h3
          refine ⟨false, M2, rfl, kk, kf, fun _ => rfl, fun x p' nx' e => ?_⟩
          rw [h3] at e
          cases e
      by_cases g3 : dN cs z (c + 2) < 10
      · rw [if_neg (by rw [dV_m1]; omega)]
        unfold b_X6_readStep_53 b_X6_readStep_71
        rw [if_neg (by decide), bnd_e, if_neg (by decide)]
        have e : (10 * dV (dN cs z (c + 1)) + dV (dN cs z (c + 2)) : Int32) = nI (10 * dN cs z (c + 1) + dN cs z (c + 2)) := by
          unfold dV
          rw [if_pos g2, if_pos g3, show (10 : Int32) = nI 10 from rfl, n_mul, nI_add]
        rw [e]
        refine fin (10 * dN cs z (c + 1) + dN cs z (c + 2)) (c + 4) (by omega) (by omega) ?_ _ _ (by rw [show (4 : Int32) = nI 4 from rfl, nI_add])
        unfold prs
        rw [if_pos ⟨g1, g2⟩, if_pos g3, show c + 4 - 1 = c + 3 by omega]
      · rw [if_pos (by rw [dV_m1]; exact g3)]
        unfold b_X6_readStep_53 b_X6_readStep_71
        rw [if_pos rfl, bnd_e, if_pos rfl]
        have e : dV (dN cs z (c + 1)) = nI (dN cs z (c + 1)) := by
          unfold dV
          rw [if_pos g2]
        rw [e]
        refine fin (dN cs z (c + 1)) (c + 3) (by omega) (by omega) ?_ _ _ (by rw [show (3 : Int32) = nI 3 from rfl, nI_add])
        unfold prs
        rw [if_pos ⟨g1, g2⟩, if_neg g3, show c + 3 - 1 = c + 2 by omega]
    · rw [if_pos (by rw [dV_m1]; exact g2)]
      have e : prs cs z c = none := by
        unfold prs
        rw [if_neg (fun h => g2 h.2)]
      exact ⟨false, M1, rfl, k1, fun j j2 _ _ => kj j j2, fun _ => rfl, fun x p nx e' => (by rw [e] at e'; cases e')⟩
  · rw [if_pos (by rw [kV_m1]; exact g1)]
    have e : prs cs z c = none := by
      unfold prs
      rw [if_neg (fun h => g1 h.1)]
    exact ⟨false, M1, rfl, k1, fun j j2 _ _ => kj j j2, fun _ => rfl, fun x p nx e' => (by rw [e] at e'; cases e')⟩
end E3
