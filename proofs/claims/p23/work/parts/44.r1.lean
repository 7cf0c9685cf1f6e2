/-! arguments that are out of their range: nothing changes -/
section R1
variable {M : Mm} {X : Nat} {S : Sm} {h : List Sm} {t : List Int32}
theorem Ask.bn {v : OR} {r r2 : Int32} {k : Int32 → Mm → OR} (a : Ask X S h t v M r) (b : ∀ M1, P M1 X S h t → Ask X S h t (k r M1) M1 r2) : Ask X S h t (obn v k) M r2 := by
  obtain ⟨M1, e, H, F⟩ := a
  obtain ⟨M2, e2, H2, F2⟩ := b M1 H
  exact ⟨M2, by rw [e, obn_s]; exact e2, H2, F2.tr F⟩
theorem Ask.is {v : OR} {r r' : Int32} (a : Ask X S h t v M r) (e : r = r') : Ask X S h t v M r' := by rw [← e]; exact a
theorem Chg.no {v : OR} {o : Int32 × Option Sm} {r : Int32} (a : Chg X S h t v M o) (e : o = (r, none)) : Ask X S h t v M r := by subst e; exact a
theorem t_typeNo (H : P M X S h t) {x : Int32} (e : inB x 32 126 = false) : Ask X S h t (f_X8_type X M x) M (-1) := by
  have a := t_type H x
  rw [show oTy t x = (-1, t) by unfold oTy; rw [e]; rfl] at a
  exact a
theorem sec_n (H : P M X S h t) : secB S (nI (nn S)) = false := by
  have hn := H.1.nlow
  rw [← Bool.not_eq_true]
  intro e
  obtain ⟨p, hp, e2⟩ := secP H.1 e
  have := (n_eq (by omega) (by omega)).mp e2
  omega
theorem sec_m (S : Sm) : secB S (-1) = false := by
  unfold secB inB
  rw [decide_eq_false_iff_not]
  exact fun c => c.1 (by decide)
theorem iso_k (H : P M X S h t) : isoB S (nI (kn S)) = false := by
  have hk := H.1.klow
  rw [← Bool.not_eq_true]
  intro e
  obtain ⟨p, hp, e2⟩ := isoP H.1 e
  have := (n_eq (by omega) (by omega)).mp e2
  omega
theorem iso_m (S : Sm) : isoB S (-1) = false := by
  unfold isoB inB
  rw [decide_eq_false_iff_not]
  exact fun c => c.1 (by decide)
theorem aRe_no {x p : Int32} (e : (inB x 0 7 && plB S x p) = false) : aRe S x p = -1 := by unfold aRe; rw [e]; rfl
theorem oSt_no {x p : Int32} (e : (inB x 0 7 && plB S x p) = false) : oSt S x p = (-1, none) := by unfold oSt; rw [e]; rfl
theorem aSe_no {x : Int32} (y : Int32) (e : secB S x = false) : aSe S x y = -1 := by unfold aSe; rw [e]; rfl
theorem aPl_no {x : Int32} (y : Int32) (e : secB S x = false) : aPl S x y = -1 := by unfold aPl; rw [e]; rfl
theorem aCa_no {x : Int32} (e : secB S x = false) : aCa S x = -1 := by unfold aCa; rw [e]; rfl
theorem oEn_no {x : Int32} (y z : Int32) (e : secB S x = false) : oEn S x y z = (-1, none) := by unfold oEn; rw [e]; rfl
theorem oLe_no {x : Int32} (y : Int32) (e : secB S x = false) : oLe S x y = (-1, none) := by unfold oLe; rw [e]; rfl
theorem oFe_no {x : Int32} (e : secB S x = false) : oFe S x = (-1, none) := by unfold oFe; rw [e]; rfl
theorem oIs_no1 {x : Int32} (y : Int32) (e : secB S x = false) : oIs S x y = (-1, none) := by unfold oIs; rw [e]; rfl
theorem oIs_no2 (x : Int32) {y : Int32} (e : secB S y = false) : oIs S x y = (-1, none) := by unfold oIs; rw [e, Bool.false_and, Bool.and_false]; rfl
theorem aIs_no {x : Int32} (y : Int32) (e : isoB S x = false) : aIs S x y = -1 := by unfold aIs; rw [e]; rfl
theorem knd_no {x : Int32} (p : Int32) (e : inB x 0 7 = false) : (inB x 0 7 && plB S x p) = false := by rw [e, Bool.false_and]
theorem rp_158 {rc2 rc134 : Mm → Int32 → OR} {x1 x2 x3 x4 s0 : Int32} (e : plB S x4 s0 = false) (hc : ∀ M1, P M1 X S h t → Ask X S h t (rc134 M1 (x4 + 1)) M1 1) (H : P M X S h t) : Ask X S h t (b_L_refusesPlaces_158 X rc2 rc134 M x1 x2 x3 x4 s0) M 1 := by
  have e2 : (inB x4 0 7 && plB S x4 s0) = false := by rw [e, Bool.and_false]
  unfold b_L_refusesPlaces_158
  refine ((t_refusal H x4 s0).is (aRe_no e2)).bn fun M1 H1 => ?_
  rw [if_pos rfl]
  unfold b_L_refusesPlaces_172
  refine ((t_step H1 x4 s0).no (oSt_no e2)).bn fun M2 H2 => ?_
  rw [if_pos rfl]
  exact hc M2 H2
theorem rp_134 {rc2 : Mm → Int32 → OR} {x1 x2 x3 : Int32} (hs : secB S x2 = false) (hi : isoB S x3 = false) (hc : ∀ M1, P M1 X S h t → Ask X S h t (rc2 M1 (x1 + 1)) M1 1) : ∀ f kd k (M : Mm), kd + f = 8 → f < k → P M X S h t → Ask X S h t (l_L_refusesPlaces_134 X rc2 x1 x2 x3 k M (nI kd)) M 1 := by
  intro f
  induction f with
  | zero =>
    intro kd k M h1 h2 H
    obtain ⟨k, rfl⟩ : ∃ x, k = x + 1 := ⟨k - 1, by omega⟩
    rw [l_L_refusesPlaces_134, show kd = 8 by omega, if_neg (by decide)]
    exact hc M H
  | succ f ih =>
    intro kd k M h1 h2 H
    obtain ⟨k, rfl⟩ : ∃ x, k = x + 1 := ⟨k - 1, by omega⟩
    have go : ∀ M1, P M1 X S h t → Ask X S h t (l_L_refusesPlaces_134 X rc2 x1 x2 x3 k M1 (nI kd + 1)) M1 1 := fun M1 H1 => by
      rw [show (1 : Int32) = nI 1 from rfl, nI_add]
      exact ih (kd + 1) k M1 (by omega) (by omega) H1
    have e23 := pl23 (x := kd) (by omega)
    rw [l_L_refusesPlaces_134, if_pos (by rw [show (8 : Int32) = nI 8 from rfl, n_lt (by omega) (by omega)]; omega)]
    by_cases g2 : nI kd = 2
    · rw [if_pos g2]
      unfold b_L_refusesPlaces_153
      exact rp_158 (by unfold plB; rw [if_pos (Or.inl g2)]; exact hi) go H
    · rw [if_neg g2]
      by_cases g3 : nI kd = 3
      · rw [if_pos g3]
        unfold b_L_refusesPlaces_153
        exact rp_158 (by unfold plB; rw [if_pos (Or.inr g3)]; exact hi) go H
      · rw [if_neg g3]
        exact rp_158 (by unfold plB; rw [if_neg (fun c => c.elim g2 g3)]; exact hs) go H
theorem rp_34 {rc2 : Mm → Int32 → OR} {x1 x2 x3 : Int32} (hs : secB S x2 = false) (hi : isoB S x3 = false) (hc : ∀ M1, P M1 X S h t → Ask X S h t (rc2 M1 (x1 + 1)) M1 1) (H : P M X S h t) : Ask X S h t (b_L_refusesPlaces_34 X rc2 M x1 x2 x3) M 1 := by
  unfold b_L_refusesPlaces_34
  refine ((t_sectionOf H x2 0).is (aSe_no 0 hs)).bn fun M1 H => ?_
  rw [if_pos rfl]
  unfold b_L_refusesPlaces_45
  refine ((t_plan H x2 0).is (aPl_no 0 hs)).bn fun M1 H => ?_
  rw [if_pos rfl]
  unfold b_L_refusesPlaces_55
  refine ((t_canPlan H x2).is (aCa_no hs)).bn fun M1 H => ?_
  rw [if_pos rfl]
  unfold b_L_refusesPlaces_64
  refine (t_count H 8).bn fun M1 H => ?_
  refine ((t_enter H x2 0 _).no (oEn_no 0 _ hs)).bn fun M1 H => ?_
  rw [if_pos rfl]
  unfold b_L_refusesPlaces_80
  refine ((t_leave H x2 0).no (oLe_no 0 hs)).bn fun M1 H => ?_
  rw [if_pos rfl]
  unfold b_L_refusesPlaces_90
  refine ((t_fetch H x2).no (oFe_no hs)).bn fun M1 H => ?_
  rw [if_pos rfl]
  unfold b_L_refusesPlaces_99
  refine ((t_isolator H x2 0).no (oIs_no1 0 hs)).bn fun M1 H => ?_
  rw [if_pos rfl]
  unfold b_L_refusesPlaces_109
  refine ((t_isolator H 0 x2).no (oIs_no2 0 hs)).bn fun M1 H => ?_
  rw [if_pos rfl]
  unfold b_L_refusesPlaces_119
  refine ((t_isolatorOf H x3 0).is (aIs_no 0 hi)).bn fun M1 H => ?_
  rw [if_pos rfl]
  exact rp_134 hs hi hc 8 0 FU M1 (by omega) (by show _ < 4000; omega) H
theorem rp_2 : ∀ f i k (M : Mm), i + f = 2 → f < k → P M X S h t → Ask X S h t (l_L_refusesPlaces_2 X k M (nI i)) M 1 := by
  intro f
  induction f with
  | zero =>
    intro i k M h1 h2 H
    obtain ⟨k, rfl⟩ : ∃ x, k = x + 1 := ⟨k - 1, by omega⟩
    rw [l_L_refusesPlaces_2, show i = 2 by omega, if_neg (by decide)]
    refine ((t_refusal H 8 0).is (aRe_no (knd_no 0 (by decide)))).bn fun M1 H => ?_
    rw [if_pos rfl]
    unfold b_L_refusesPlaces_209
    refine ((t_refusal H (-1) 0).is (aRe_no (knd_no 0 (by decide)))).bn fun M1 H => ?_
    rw [if_pos rfl]
    unfold b_L_refusesPlaces_219
    refine ((t_step H 8 0).no (oSt_no (knd_no 0 (by decide)))).bn fun M1 H => ?_
    rw [if_pos rfl]
    unfold b_L_refusesPlaces_230
    refine ((t_step H (-1) 0).no (oSt_no (knd_no 0 (by decide)))).bn fun M1 H => ?_
    rw [if_pos rfl]
    exact ⟨M1, rfl, H, Fr.rf⟩
  | succ f ih =>
    intro i k M h1 h2 H
    obtain ⟨k, rfl⟩ : ∃ x, k = x + 1 := ⟨k - 1, by omega⟩
    have go : ∀ M1, P M1 X S h t → Ask X S h t (l_L_refusesPlaces_2 X k M1 (nI i + 1)) M1 1 := fun M1 H1 => by
      rw [show (1 : Int32) = nI 1 from rfl, nI_add]
      exact ih (i + 1) k M1 (by omega) (by omega) H1
    rw [l_L_refusesPlaces_2, if_pos (by rw [show (2 : Int32) = nI 2 from rfl, n_lt (by omega) (by omega)]; omega)]
    by_cases g : nI i = 0
    · rw [if_pos g]
      unfold b_L_refusesPlaces_11
      refine (t_count H 0).bn fun M1 H => ?_
      unfold b_L_refusesPlaces_20
      rw [if_pos g]
      unfold b_L_refusesPlaces_25
      refine (t_count H 1).bn fun M1 H => ?_
      rw [ct0, ct1]
      exact rp_34 (sec_n H) (iso_k H) go H
    · rw [if_neg g]
      unfold b_L_refusesPlaces_20
      rw [if_neg g]
      exact rp_34 (sec_m S) (iso_m S) go H
theorem t_places (H : P M X S h t) : Ask X S h t (f_L_refusesPlaces X M) M 1 := rp_2 2 0 FU M (by omega) (by show _ < 4000; omega) H
theorem ct14 (S : Sm) (d z : Nat) : aCt S d z 14 = nI d := rfl
theorem ct15 (S : Sm) (d z : Nat) : aCt S d z 15 = nI z := rfl
theorem ct8 (S : Sm) (d z : Nat) : aCt S d z 8 = S 3 := rfl
def hR (S : Sm) (h : List Sm) (t : List Int32) : Int64 := 31 * (31 * hS S + (nI h.length).toInt64) + (nI t.length).toInt64
theorem jcmp_e {a b : Int64} (e : a = b) : jcmp a b = 0 := (lg_cmp_eq a b).mpr e
theorem jcmp_i {a b : Int64} : jcmp a b = 0 ↔ a = b := lg_cmp_eq a b
/-- the sum with the history's and the text's lengths -/
theorem rd_sum {k : Int64 → Mm → OR} (H : P M X S h t) (b : ∀ M1, P M1 X S h t → Ask X S h t (k (hR S h t) M1) M1 1) : Ask X S h t (obn (f_L_state X M) fun q3 M1 => (obn (f_X8_count X M1 14) fun q6 M4 => (obn (f_L_mixed M4 q3 (Int32.toInt64 q6)) fun q9 M7 => (obn (f_X8_count X M7 15) fun q12 M10 => (obn (f_L_mixed M10 q9 (Int32.toInt64 q12)) fun q15 M13 => k q15 M13))))) M 1 := by
  obtain ⟨M1, e1, H1, F1⟩ := t_state H
  obtain ⟨M2, e2, H2, F2⟩ := t_count H1 14
  obtain ⟨M3, e3, H3, F3⟩ := t_count H2 15
  obtain ⟨M4, e4, H4, F4⟩ := b M3 H3
  refine ⟨M4, ?_, H4, F4.tr (F3.tr (F2.tr F1))⟩
  rw [e1, obn_s, e2, obn_s, mixed_ok, obn_s, e3, obn_s, mixed_ok, obn_s, ct14, ct15]
  exact e4
theorem rd_391 (H : P M X S h t) : Ask X S h t (b_L_refused_391 X M (hR S h t)) M 1 := by
  unfold b_L_refused_391
  refine rd_sum (k := fun q15 M13 => if (jcmp q15 (hR S h t)) = 0 then b_L_refused_425 X M13 1 else b_L_refused_425 X M13 0) H fun M1 H => ?_
  show Ask X S h t (if jcmp (hR S h t) (hR S h t) = 0 then _ else _) M1 1
  rw [if_pos (jcmp_e rfl)]
  exact ⟨M1, rfl, H, Fr.rf⟩
theorem oIs_00 (S : Sm) : oIs S 0 0 = (-1, none) := by unfold oIs; rw [show decide ((0 : Int32) = 0) = true by decide, Bool.not_true, Bool.and_false, Bool.and_false]; rfl
theorem aSe_11 (S : Sm) : aSe S 0 11 = -1 := by
  cases e : secB S 0
  · exact aSe_no _ e
  · unfold aSe; rw [e]; rfl
theorem aSe_m1 (S : Sm) : aSe S 0 (-1) = -1 := by
  cases e : secB S 0
  · exact aSe_no _ e
  · unfold aSe; rw [e]; rfl
theorem aPl_m1 (S : Sm) : aPl S 0 (-1) = -1 := by unfold aPl; split <;> rfl
theorem aIs_6 (S : Sm) : aIs S 0 6 = -1 := by unfold aIs; split <;> rfl
theorem aIs_m1 (S : Sm) : aIs S 0 (-1) = -1 := by unfold aIs; split <;> rfl
theorem oEn_y {y : Int32} (x z : Int32) (e : inB y 0 50 = false) : oEn S x y z = (-1, none) := by unfold oEn; rw [e, Bool.false_and, Bool.and_false]; rfl
theorem oEn_z {z : Int32} (x y : Int32) (e : inB z (S 3) 100000 = false) : oEn S x y z = (-1, none) := by unfold oEn; rw [e, Bool.and_false, Bool.and_false]; rfl
theorem oLe_y {y : Int32} (x : Int32) (e : inB y 0 50 = false) : oLe S x y = (-1, none) := by unfold oLe; rw [e, Bool.and_false]; rfl
theorem z_early (H : P M X S h t) : inB (S 3 - 1) (S 3) 100000 = false := by
  obtain ⟨c, hc, e⟩ := H.2.2.2.1.1
  unfold inB
  rw [decide_eq_false_iff_not, e]
  refine fun g => g.1 ?_
  rcases Nat.eq_zero_or_pos c with z | z
  · subst z; decide
  · rw [show (1 : Int32) = nI 1 from rfl, n_sub (by omega), n_lt (by omega) (by omega)]; omega
theorem z_late (S : Sm) : inB 100001 (S 3) 100000 = false := by
  unfold inB
  rw [decide_eq_false_iff_not]
  exact fun g => g.2 (by decide)
theorem aPl_19 (H : P M X S h t) (e : 0 < nI (nn S)) : aPl S 0 19 = -4 := by
  have hn := H.1.nlow
  have hk := H.1.klow
  rw [show (0 : Int32) = nI 0 from rfl, n_lt (by omega) (by omega)] at e
  have g : secB S 0 = true := by
    unfold secB
    rw [H.1.1.1.1]
    exact in_to (by omega) e
  have hl := plL_len S (kn S) (ix 0) hk
  unfold aPl
  rw [if_pos g, if_neg (by decide), if_neg (by rw [show (19 : Int32) = nI 19 from rfl, n_lt (by omega) (by omega)]; omega)]
theorem aLo_24 (H : P M X S h t) : aLo S 24 0 = -4 := by
  have hq := H.1.1.1.2.2.2.2.2
  unfold aLo
  rw [if_neg (by decide), if_pos (by decide), if_neg (by rw [show (24 : Int32) = nI 24 from rfl, n_lt (by omega) (by omega)]; omega)]
theorem rd_379 (H : P M X S h t) : Ask X S h t (b_L_refused_379 X M (hR S h t)) M 1 := by
  unfold b_L_refused_379
  refine ((t_isolatorOf H 0 (-1)).is (aIs_m1 S)).bn fun M1 H => ?_
  rw [if_pos rfl]
  exact rd_391 H
theorem rd_368 (H : P M X S h t) : Ask X S h t (b_L_refused_368 X M (hR S h t)) M 1 := by
  unfold b_L_refused_368
  refine ((t_isolatorOf H 0 6).is (aIs_6 S)).bn fun M1 H => ?_
  rw [if_pos rfl]
  exact rd_379 H
theorem rd_360 (H : P M X S h t) : Ask X S h t (b_L_refused_360 X M (hR S h t)) M 1 := by
  unfold b_L_refused_360
  refine (t_count H 1).bn fun M1 H => ?_
  rw [ct1]
  by_cases g : 0 < nI (kn S)
  · rw [if_pos g]
    exact rd_368 H
  · rw [if_neg g]
    exact rd_391 H
theorem rd_347 (H : P M X S h t) : Ask X S h t (b_L_refused_347 X M (hR S h t)) M 1 := by
  unfold b_L_refused_347
  refine ((t_leave H 0 51).no (oLe_y 0 (by decide))).bn fun M1 H => ?_
  rw [if_pos rfl]
  exact rd_360 H
theorem rd_337 (H : P M X S h t) : Ask X S h t (b_L_refused_337 X M (hR S h t)) M 1 := by
  unfold b_L_refused_337
  refine ((t_leave H 0 (-1)).no (oLe_y 0 (by decide))).bn fun M1 H => ?_
  rw [if_pos rfl]
  exact rd_347 H
theorem rd_325 (H : P M X S h t) : Ask X S h t (b_L_refused_325 X M (hR S h t)) M 1 := by
  unfold b_L_refused_325
  refine ((t_enter H 0 0 100001).no (oEn_z 0 0 (z_late S))).bn fun M1 H => ?_
  rw [if_pos rfl]
  exact rd_337 H
theorem rd_307 (H : P M X S h t) : Ask X S h t (b_L_refused_307 X M (hR S h t)) M 1 := by
  unfold b_L_refused_307
  refine (t_count H 8).bn fun M1 H => ?_
  refine ((t_enter H 0 0 _).no (oEn_z 0 0 (by rw [ct8]; exact z_early H))).bn fun M1 H => ?_
  rw [if_pos rfl]
  exact rd_325 H
theorem rd_290 (H : P M X S h t) : Ask X S h t (b_L_refused_290 X M (hR S h t)) M 1 := by
  unfold b_L_refused_290
  refine (t_count H 8).bn fun M1 H => ?_
  refine ((t_enter H 0 51 _).no (oEn_y 0 _ (by decide))).bn fun M1 H => ?_
  rw [if_pos rfl]
  exact rd_307 H
theorem rd_274 (H : P M X S h t) : Ask X S h t (b_L_refused_274 X M (hR S h t)) M 1 := by
  unfold b_L_refused_274
  refine (t_count H 8).bn fun M1 H => ?_
  refine ((t_enter H 0 (-1) _).no (oEn_y 0 _ (by decide))).bn fun M1 H => ?_
  rw [if_pos rfl]
  exact rd_290 H
theorem rd_262 (H : P M X S h t) (hn : 0 < nI (nn S)) : Ask X S h t (b_L_refused_262 X M (hR S h t)) M 1 := by
  unfold b_L_refused_262
  refine ((t_plan H 0 19).is (aPl_19 H hn)).bn fun M1 H => ?_
  rw [if_pos rfl]
  exact rd_274 H
theorem rd_252 (H : P M X S h t) (hn : 0 < nI (nn S)) : Ask X S h t (b_L_refused_252 X M (hR S h t)) M 1 := by
  unfold b_L_refused_252
  refine ((t_plan H 0 (-1)).is (aPl_m1 S)).bn fun M1 H => ?_
  rw [if_pos rfl]
  exact rd_262 H hn
theorem rd_242 (H : P M X S h t) (hn : 0 < nI (nn S)) : Ask X S h t (b_L_refused_242 X M (hR S h t)) M 1 := by
  unfold b_L_refused_242
  refine ((t_sectionOf H 0 (-1)).is (aSe_m1 S)).bn fun M1 H => ?_
  rw [if_pos rfl]
  exact rd_252 H hn
theorem rd_231 (H : P M X S h t) (hn : 0 < nI (nn S)) : Ask X S h t (b_L_refused_231 X M (hR S h t)) M 1 := by
  unfold b_L_refused_231
  refine ((t_sectionOf H 0 11).is (aSe_11 S)).bn fun M1 H => ?_
  rw [if_pos rfl]
  exact rd_242 H hn
theorem rd_221 (H : P M X S h t) (hn : 0 < nI (nn S)) : Ask X S h t (b_L_refused_221 X M (hR S h t)) M 1 := by
  unfold b_L_refused_221
  refine ((t_isolator H 0 0).no (oIs_00 S)).bn fun M1 H => ?_
  rw [if_pos rfl]
  exact rd_231 H hn
theorem rd_202 (H : P M X S h t) : Ask X S h t (b_L_refused_202 X M (hR S h t)) M 1 := by
  unfold b_L_refused_202
  refine (Ask.is (r' := -1) (t_fault H 2) rfl).bn fun M1 H => ?_
  rw [if_pos rfl]
  refine (t_count H 0).bn fun M1 H => ?_
  rw [ct0]
  by_cases g : 0 < nI (nn S)
  · rw [if_pos g]
    exact rd_221 H g
  · rw [if_neg g]
    exact rd_360 H
theorem rd_193 (H : P M X S h t) : Ask X S h t (b_L_refused_193 X M (hR S h t)) M 1 := by
  unfold b_L_refused_193
  refine (Ask.is (r' := -1) (t_fault H (-1)) rfl).bn fun M1 H => ?_
  rw [if_pos rfl]
  exact rd_202 H
theorem rd_183 (H : P M X S h t) : Ask X S h t (b_L_refused_183 X M (hR S h t)) M 1 := by
  unfold b_L_refused_183
  refine (t_typeNo H (by decide)).bn fun M1 H => ?_
  rw [if_pos rfl]
  exact rd_193 H
theorem rd_173 (H : P M X S h t) : Ask X S h t (b_L_refused_173 X M (hR S h t)) M 1 := by
  unfold b_L_refused_173
  refine (t_typeNo H (by decide)).bn fun M1 H => ?_
  rw [if_pos rfl]
  exact rd_183 H
theorem rd_162 (H : P M X S h t) : Ask X S h t (b_L_refused_162 X M (hR S h t)) M 1 := by
  unfold b_L_refused_162
  refine (Chg.no (r := -1) (t_pass H 10001) rfl).bn fun M1 H => ?_
  rw [if_pos rfl]
  exact rd_173 H
theorem rd_153 (H : P M X S h t) : Ask X S h t (b_L_refused_153 X M (hR S h t)) M 1 := by
  unfold b_L_refused_153
  refine (Chg.no (r := -1) (t_pass H 0) rfl).bn fun M1 H => ?_
  rw [if_pos rfl]
  exact rd_162 H
theorem rd_141 (H : P M X S h t) : Ask X S h t (b_L_refused_141 X M (hR S h t)) M 1 := by
  unfold b_L_refused_141
  refine ((t_log H 24 0).is (aLo_24 H)).bn fun M1 H => ?_
  rw [if_pos rfl]
  exact rd_153 H
theorem rd_131 (H : P M X S h t) : Ask X S h t (b_L_refused_131 X M (hR S h t)) M 1 := by
  unfold b_L_refused_131
  refine (Ask.is (r' := -1) (t_log H 0 (-1)) rfl).bn fun M1 H => ?_
  rw [if_pos rfl]
  exact rd_141 H
theorem rd_121 (H : P M X S h t) : Ask X S h t (b_L_refused_121 X M (hR S h t)) M 1 := by
  unfold b_L_refused_121
  refine (Ask.is (r' := -1) (t_log H 0 3) rfl).bn fun M1 H => ?_
  rw [if_pos rfl]
  exact rd_131 H
theorem rd_111 (H : P M X S h t) : Ask X S h t (b_L_refused_111 X M (hR S h t)) M 1 := by
  unfold b_L_refused_111
  refine (Ask.is (r' := -1) (t_log H (-1) 0) rfl).bn fun M1 H => ?_
  rw [if_pos rfl]
  exact rd_121 H
theorem rd_101 (H : P M X S h t) : Ask X S h t (b_L_refused_101 X M (hR S h t)) M 1 := by
  unfold b_L_refused_101
  refine (Ask.is (r' := -1) (t_count H 16) rfl).bn fun M1 H => ?_
  rw [if_pos rfl]
  exact rd_111 H
theorem rd_92 (H : P M X S h t) : Ask X S h t (b_L_refused_92 X M (hR S h t)) M 1 := by
  unfold b_L_refused_92
  refine (Ask.is (r' := -1) (t_count H (-1)) rfl).bn fun M1 H => ?_
  rw [if_pos rfl]
  exact rd_101 H
theorem rd_82 (H : P M X S h t) : Ask X S h t (b_L_refused_82 X M (hR S h t)) M 1 := by
  unfold b_L_refused_82
  refine (Chg.no (r := -1) (t_pool H 41) rfl).bn fun M1 H => ?_
  rw [if_pos rfl]
  exact rd_92 H
theorem rd_73 (H : P M X S h t) : Ask X S h t (b_L_refused_73 X M (hR S h t)) M 1 := by
  unfold b_L_refused_73
  refine (Chg.no (r := -1) (t_pool H (-1)) rfl).bn fun M1 H => ?_
  rw [if_pos rfl]
  exact rd_82 H
theorem rd_63 (H : P M X S h t) : Ask X S h t (b_L_refused_63 X M (hR S h t)) M 1 := by
  unfold b_L_refused_63
  refine (Chg.no (r := -1) (t_section H 1 (-1)) rfl).bn fun M1 H => ?_
  rw [if_pos rfl]
  exact rd_73 H
theorem rd_53 (H : P M X S h t) : Ask X S h t (b_L_refused_53 X M (hR S h t)) M 1 := by
  unfold b_L_refused_53
  refine (Chg.no (r := -1) (t_section H 1 2) rfl).bn fun M1 H => ?_
  rw [if_pos rfl]
  exact rd_63 H
theorem rd_42 (H : P M X S h t) : Ask X S h t (b_L_refused_42 X M (hR S h t)) M 1 := by
  unfold b_L_refused_42
  refine (Chg.no (r := -1) (t_section H 10 0) rfl).bn fun M1 H => ?_
  rw [if_pos rfl]
  exact rd_53 H
theorem rd_32 (H : P M X S h t) : Ask X S h t (b_L_refused_32 X M (hR S h t)) M 1 := by
  unfold b_L_refused_32
  refine (Chg.no (r := -1) (t_section H 0 0) rfl).bn fun M1 H => ?_
  rw [if_pos rfl]
  exact rd_42 H
theorem t_refused (H : P M X S h t) : Ask X S h t (f_L_refused X M) M 1 := by
  unfold f_L_refused
  refine rd_sum (k := fun q15 M13 => obn (f_L_refusesPlaces X M13) fun q18 M16 => (if q18 = 0 then b_L_refused_211 X M16 else b_L_refused_32 X M16 q15)) H fun M1 H => ?_
  refine (t_places H).bn fun M1 H => ?_
  rw [if_neg (by decide)]
  exact rd_32 H
end R1
