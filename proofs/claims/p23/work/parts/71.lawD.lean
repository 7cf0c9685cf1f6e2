/-! the law: ten sections, the pool, sixteen isolators -/
section LD
variable {M : Mm} {X : Nat} {S : Sm} {h : List Sm} {t : List Int32} {c : Nat} {Q : Int32 × Mm → Prop} {f : OR} {kf : Int32 → Mm → OR}
theorem Gd.chE {o : Int32 × Option Sm} {v : Int32} {S' : Sm} (hA : Chg X S h t f M o) (ho : o = (v, some S')) (hk : ∀ M', P M' X S' (push S h) t → Fr X M' M → Gd Q (kf v M')) : Gd Q (obn f kf) := by
  obtain ⟨M', e, H, F⟩ := hA
  subst ho
  rw [e, obn_s]
  exact hk M' H F
theorem Gd.noE {o : Int32 × Option Sm} {v : Int32} (hA : Chg X S h t f M o) (ho : o = (v, none)) (hk : ∀ M', P M' X S h t → Fr X M' M → Gd Q (kf v M')) : Gd Q (obn f kf) := by
  obtain ⟨M', e, H, F⟩ := hA
  subst ho
  rw [e, obn_s]
  exact hk M' H F
def Zr (S : Sm) : Prop := ∀ s, s < 10 → bS S 2 s = false ∧ aO S s 3 = nI 0 ∧ bS S 4 s = false ∧ aO S s 7 = nI 0 ∧ ∃ d, d ≤ 9 ∧ aO S s 0 = nI d
theorem Zr.bd (Z : Zr S) : Bd 0 S := fun s hs => by
  obtain ⟨-, -, z4, z7, z0⟩ := Z s hs
  exact ⟨z0, ⟨0, by omega, z7⟩, fun hb => by rw [z4] at hb; cases hb⟩
theorem Zr.s00 : Zr S00 := fun s hs => by
  have e : ∀ j, aO S00 s j = nI 0 := fun j => by unfold aO S00; rw [if_neg (by omega)]
  have e2 : ∀ j, bS S00 j s = false := fun j => by unfold bS; rw [e]; decide
  exact ⟨e2 _, e _, e2 _, e _, 0, by omega, e _⟩
theorem Zr.of {S' : Sm} (Z : Zr S) {s : Nat} (hs : s < 10) (e : ∀ j, j < 9 → aO S' s j = aO S s j) : bS S' 2 s = false ∧ aO S' s 3 = nI 0 ∧ bS S' 4 s = false ∧ aO S' s 7 = nI 0 ∧ ∃ d, d ≤ 9 ∧ aO S' s 0 = nI d := by
  have eb : ∀ j, j < 9 → bS S' j s = bS S j s := fun j hj => by unfold bS; rw [e j hj]
  rw [eb 2 (by omega), e 3 (by omega), eb 4 (by omega), e 7 (by omega), e 0 (by omega)]
  exact Z s hs
theorem Zr.ns {n u : Nat} {f : Bool} (Z : Zr S) (hn : n < 10) (hu : u ≤ 9) : Zr (nsS S n u f) := fun s hs => by
  by_cases y : s = n
  · subst y
    have e : ∀ j, 2 ≤ j → j < 8 → bS (nsS S s u f) j s = false := fun j h1 h2 => by unfold bS; rw [ns_z h1 h2]; decide
    exact ⟨e 2 (by omega) (by omega), ns_z (by omega) (by omega), e 4 (by omega) (by omega), ns_z (by omega) (by omega), u, hu, ns_0⟩
  · refine Z.of hs fun j hj => ?_
    unfold aO nsS
    rw [if_neg (by omega), if_neg (by omega)]
theorem Zr.ni {k x y : Nat} (Z : Zr S) (hk : k < 16) : Zr (niS S k x y) := fun s hs => Z.of hs fun j hj => ni_O hk hs hj
theorem Zr.po {x : Int32} (Z : Zr S) : Zr (upd S 2 x) := fun s hs => Z.of hs fun j hj => aO_u (by omega)
theorem Zr.gd (Z : Zr S) {s : Nat} (hs : s < 10) : gdS S s = false := by
  obtain ⟨-, z3, -, z7, -⟩ := Z s hs
  unfold gdS bS
  rw [z3, z7]
  decide
theorem Zr.jn (Z : Zr S) (hn : nn S ≤ 10) (x y : Nat) : jnB S x y = false := by
  unfold jnB
  have : ∀ m, m ≤ 10 → fb_ct (enS S (nn S) (kn S) x y) m = 0 := by
    intro m
    induction m with
    | zero => intro _; rfl
    | succ m ih =>
      intro hm
      rw [fb_ct_succ, ih (by omega)]
      unfold enS
      rw [Z.gd (by omega), Bool.false_and, Bool.false_and]
      rfl
  rw [this _ hn]
  rfl
theorem Zr.bu (Z : Zr S) : ∀ n, n ≤ 10 → sumI (buS S) n = nI 0
  | 0, _ => rfl
  | n + 1, h => by
    rw [sumI, Z.bu n (by omega)]
    unfold buS
    rw [(Z n (by omega)).1, if_neg (by decide)]
    rfl
theorem inY {a b m : Nat} (h1 : a ≤ m) (h2 : m ≤ b) (hb : b < 1000) : inB (nI m) (nI a) (nI b) = true := by
  unfold inB
  exact decide_eq_true ⟨by rw [n_lt (by omega) (by omega)]; omega, by rw [n_lt (by omega) (by omega)]; omega⟩
theorem sec_y (H : P M X S h t) {s : Nat} (hs : s < nn S) : secB S (nI s) = true := by
  unfold secB
  rw [H.1.1.1.1]
  exact in_to (by have := H.1.nlow; omega) hs
def K34 (X : Nat) (R : Int32 × Mm) : Prop := R.1 = 1 ∧ ∃ S h, P R.2 X S h [] ∧ Bd 0 S
variable {b N : Nat} {xs : Nat → Int32} {rc : Mm → OR}
theorem is_y (H : P M X S h t) (Z : Zr S) (hk : kn S < 16) {x y : Nat} (hx : x < nn S) (hy : y < nn S) (hxy : x ≠ y) : oIs S (nI x) (nI y) = (nI (kn S), some (niS S (kn S) x y)) := by
  have hn := H.1.nlow
  unfold oIs
  rw [sec_y H hx, sec_y H hy, if_pos (by rw [decide_eq_false (by rw [n_eq (by omega) (by omega)]; exact hxy)]; rfl), show ix (nI x) = x from n_ix (by omega), show ix (nI y) = y from n_ix (by omega), Z.jn (by omega), if_neg (by decide), if_neg (by omega)]
theorem is_full (H : P M X S h t) (Z : Zr S) (hk : kn S = 16) {x y : Nat} (hx : x < nn S) (hy : y < nn S) (hxy : x ≠ y) : oIs S (nI x) (nI y) = (-3, none) := by
  have hn := H.1.nlow
  unfold oIs
  rw [sec_y H hx, sec_y H hy, if_pos (by rw [decide_eq_false (by rw [n_eq (by omega) (by omega)]; exact hxy)]; rfl), show ix (nI x) = x from n_ix (by omega), show ix (nI y) = y from n_ix (by omega), Z.jn (by omega), if_neg (by decide), if_pos hk]
theorem kn_ni {k x y : Nat} (hk : k < 16) : kn (niS S k x y) = k + 1 := by
  unfold kn
  rw [show niS S k x y 1 = nI (k + 1) from rfl]
  exact n_ix (by omega)
theorem nn_ni {k x y : Nat} : nn (niS S k x y) = nn S := by
  unfold nn
  rw [ni_g (by omega) (by omega)]
theorem nn_ns {n u : Nat} {f : Bool} (hn : n < 10) : nn (nsS S n u f) = n + 1 := by
  unfold nn
  rw [show nsS S n u f 0 = nI (n + 1) from rfl]
  exact n_ix (by omega)
theorem kn_ns {n u : Nat} {f : Bool} : kn (nsS S n u f) = kn S := by
  unfold kn
  rw [ns_g (by omega) (by omega)]
theorem lw_128 (hN : N < 1000) (hrc : ∀ M, rc M = some (1, M)) : ∀ d i k (M : Mm) (S : Sm) (h : List Sm), i + d = 16 → d < k → P M X S h [] → Zr S → nn S = 10 → kn S = i → Gd (K34 X) (l_Lw_34_128 b X N xs rc k M (nI i)) := by
  intro d
  induction d with
  | zero =>
    intro i k M S h hi hk H Z hn hkn
    obtain ⟨k, rfl⟩ : ∃ x, k = x + 1 := ⟨k - 1, by omega⟩
    rw [l_Lw_34_128, if_neg (by rw [show (16 : Int32) = nI 16 from rfl, n_lt (by omega) (by omega)]; omega)]
    refine Gd.noE (t_isolator H 0 1) (is_full H Z (by omega) (x := 0) (y := 1) (by omega) (by omega) (by omega)) fun M H _ => ?_
    rw [if_pos (by decide)]
    unfold b_Lw_34_196
    refine Gd.noE (t_isolator H 0 0) (oIs_00 S) fun M H _ => ?_
    rw [if_pos (by decide)]
    unfold b_Lw_34_206
    refine Gd.ask 1 (t_refused H) rfl fun M H _ => ?_
    rw [if_neg (by decide), hrc]
    exact ⟨_, rfl, rfl, S, h, H, Z.bd⟩
  | succ d ih =>
    intro i k M S h hi hk H Z hn hkn
    obtain ⟨k, rfl⟩ : ∃ x, k = x + 1 := ⟨k - 1, by omega⟩
    rw [l_Lw_34_128, if_pos (by rw [show (16 : Int32) = nI 16 from rfl, n_lt (by omega) (by omega)]; omega)]
    unfold b_Lw_34_134
    rw [show (20 : Int32) = nI 20 from rfl, show (40 : Int32) = nI 40 from rfl, nI_add, nI_add]
    refine Gd.take _ (by omega) hN fun v => ?_
    refine Gd.part 10 (by omega) (by omega) fun r hr => ?_
    refine Gd.take _ (by omega) hN fun v => ?_
    refine Gd.part 9 (by omega) (by omega) fun r2 hr2 => ?_
    rw [show (1 : Int32) = nI 1 from rfl, show (10 : Int32) = nI 10 from rfl, nI_add, nI_add, nI_add, n_rem (by omega) (by omega) (by omega)]
    refine Gd.chE (t_isolator H _ _) (is_y H Z (by omega) (by omega) (by have := Nat.mod_lt (r + 1 + r2) (show 0 < 10 by omega); omega) (by omega)) fun M H _ => ?_
    rw [if_pos (by rw [hkn])]
    exact ih (i + 1) k M _ _ (by omega) (by omega) H (Z.ni (by omega)) (by rw [nn_ni, hn]) (by rw [kn_ni (by omega), hkn])
theorem se_y (hn : nn S < 10) {u : Nat} {f : Bool} (hu : 1 ≤ u) (hu2 : u ≤ 9) : oSe S (nI u) (nI f.toNat) = (nI (nn S), some (nsS S (nn S) u f)) := by
  unfold oSe
  rw [show (1 : Int32) = nI 1 from rfl, show (9 : Int32) = nI 9 from rfl, show (0 : Int32) = nI 0 from rfl, inY hu hu2 (by omega), inY (m := f.toNat) (by omega) (by cases f <;> decide) (by omega), if_pos (by decide), if_neg (by omega), show ix (nI u) = u from n_ix (by omega)]
  congr 3
  cases f <;> decide
theorem lw_37 (hN : N < 1000) (hrc : ∀ M, rc M = some (1, M)) : ∀ d i k (M : Mm) (S : Sm) (h : List Sm), i + d = 10 → d < k → P M X S h [] → Zr S → nn S = i → kn S = 0 → Gd (K34 X) (l_Lw_34_37 b X N xs rc k M (nI i)) := by
  intro d
  induction d with
  | zero =>
    intro i k M S h hi hk H Z hn hkn
    obtain ⟨k, rfl⟩ : ∃ x, k = x + 1 := ⟨k - 1, by omega⟩
    rw [l_Lw_34_37, if_neg (by rw [show (10 : Int32) = nI 10 from rfl, n_lt (by omega) (by omega)]; omega)]
    refine Gd.noE (v := -3) (t_section H 1 0) (by unfold oSe; rw [if_pos (by decide), if_pos (by omega)]) fun M H _ => ?_
    rw [if_pos (by decide)]
    unfold b_Lw_34_103
    refine Gd.noE (v := -1) (t_section H 0 0) (by unfold oSe; rw [if_neg (by decide)]) fun M H _ => ?_
    rw [if_pos (by decide)]
    unfold b_Lw_34_113
    refine Gd.chE (v := 40) (S' := upd S 2 40) (t_pool H 40) ?_ fun M H _ => ?_
    · unfold oPo
      rw [if_pos (by decide), Z.bu _ (by omega), if_neg (by decide)]
      unfold frS
      rw [bu_g, Z.bu _ (by omega), upd_at]
      rfl
    rw [if_pos (by decide)]
    exact lw_128 hN hrc 16 0 FU M (upd S 2 40) _ (by omega) (by show _ < 4000; omega) H Z.po (by show nn S = 10; omega) (by show kn S = 0; exact hkn)
  | succ d ih =>
    intro i k M S h hi hk H Z hn hkn
    obtain ⟨k, rfl⟩ : ∃ x, k = x + 1 := ⟨k - 1, by omega⟩
    rw [l_Lw_34_37, if_pos (by rw [show (10 : Int32) = nI 10 from rfl, n_lt (by omega) (by omega)]; omega)]
    have go : ∀ (u : Nat) (f : Bool) (M : Mm), u < 9 → P M X S h [] → Gd (K34 X) (b_Lw_34_77 b X N xs rc (l_Lw_34_37 b X N xs rc k) M (nI i) (1 + nI u) (nI f.toNat)) := fun u f M hu H => by
      unfold b_Lw_34_77
      rw [show (1 : Int32) = nI 1 from rfl, nI_add, nI_add]
      refine Gd.chE (t_section H _ _) (se_y (by omega) (by omega) (by omega)) fun M H _ => ?_
      rw [if_pos (by rw [hn])]
      exact ih (i + 1) k M _ _ (by omega) (by omega) H (Z.ns (by omega) (by omega)) (by rw [nn_ns (by omega), hn]) (by rw [kn_ns, hkn])
    unfold b_Lw_34_43
    refine Gd.take _ (by omega) hN fun v => ?_
    refine Gd.part 9 (by omega) (by omega) fun r hr => ?_
    by_cases g : nI i < 2
    · rw [if_pos g]
      exact go r true M hr H
    · rw [if_neg g, show (10 : Int32) = nI 10 from rfl, nI_add]
      refine Gd.take _ (by omega) hN fun v => ?_
      refine Gd.part 2 (by omega) (by omega) fun r2 hr2 => ?_
      rcases (show r2 = 0 ∨ r2 = 1 by omega) with e | e
      · rw [e]; exact go r false M hr H
      · rw [e]; exact go r true M hr H
theorem lw_34 (hN : N < 1000) (hrc : ∀ M, rc M = some (1, M)) (H : P M X S00 [] []) : Gd (K34 X) (f_L_law_34 b X N xs rc M) :=
  lw_37 hN hrc 10 0 FU M S00 [] (by omega) (by show _ < 4000; omega) H Zr.s00 (by decide) (by decide)
end LD
