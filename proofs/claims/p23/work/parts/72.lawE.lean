/-! the law: forty calls drawn, each taken back or kept; then all back -/
section LE
variable {M : Mm} {X Y : Nat} {S : Sm} {h : List Sm} {c : Nat} {Q : Int32 × Mm → Prop} {f : OR}
variable {b N : Nat} {xs : Nat → Int32} {rc573 : Mm → OR}
theorem jat_row {M' : Mm} (e : M' Y = M Y) (i : Nat) : jat M' Y i = jat M Y i := by unfold jat; rw [e]
def Hv (M : Mm) (Y : Nat) (h : List Sm) (c : Nat) : Prop := (5 ≤ c → h.length = 5) ∧ ∀ i, i < 5 → i < c → ∃ S', h[i]? = some S' ∧ jat M Y (c - 1 - i) = hS S'
theorem Hv.row {M' : Mm} (V : Hv M Y h c) (e : M' Y = M Y) : Hv M' Y h c := ⟨V.1, fun i h1 h2 => by
  obtain ⟨S', e1, e2⟩ := V.2 i h1 h2
  exact ⟨S', e1, by rw [jat_row e]; exact e2⟩⟩
theorem Hv.psh (V : Hv M Y h c) (hl : h.length ≤ 5) (hw : jat M Y c = hS S) : Hv M Y (push S h) (c + 1) := by
  refine ⟨fun hc => ?_, fun i h1 h2 => ?_⟩
  · rw [push_len S hl]
    unfold dk
    by_cases g : 5 ≤ c
    · rw [V.1 g]; rfl
    · obtain ⟨S', e1, -⟩ := V.2 3 (by omega) (by omega)
      obtain ⟨l1, -⟩ := List.getElem?_eq_some_iff.mp e1
      split <;> omega
  · unfold push
    rw [List.getElem?_take, if_pos h1]
    cases i with
    | zero => exact ⟨S, rfl, by rw [show c + 1 - 1 - 0 = c by omega]; exact hw⟩
    | succ i =>
      obtain ⟨S', e1, e2⟩ := V.2 i (by omega) (by omega)
      exact ⟨S', by rw [List.getElem?_cons_succ]; exact e1, by rw [show c + 1 - 1 - (i + 1) = c - 1 - i by omega]; exact e2⟩
def Sv (M : Mm) (X Y : Nat) (S : Sm) (h : List Sm) (c : Nat) : Prop := P M X S h [] ∧ Bd c S ∧ Hv M Y h c ∧ jat M Y c = hS S
theorem Sv.fr {M' : Mm} (V : Sv M X Y S h c) (hY : X + 233 ≤ Y) (H : P M' X S h []) (F : Fr X M' M) : Sv M' X Y S h c :=
  ⟨H, V.2.1, V.2.2.1.row (F _ (by omega)), by rw [jat_row (F _ (by omega))]; exact V.2.2.2⟩
/-- what is after a call -/
theorem lw_447 {rc : Mm → Int32 → Int32 → OR} {x4 : Int32} {o : Int32 × Option Sm} (hY : X + 233 ≤ Y) (V : Sv M X Y S h c) (hA : Chg X S h [] f M o) (hO : Ok_ c o) (hc : c < 40)
    (kk : ∀ (M' : Mm) (c' : Nat) (S' : Sm) (h' : List Sm), c' ≤ c + 1 → P M' X S' h' [] → Bd c' S' → Hv M' Y h' c' → Gd Q (rc M' (nI c') (x4 + 1))) : Gd Q (obn f fun q M1 => b_Lw_219_447 b X N Y xs rc573 rc M1 (nI c) x4 q) := by
  obtain ⟨M1, e, H1, F1⟩ := hA
  obtain ⟨H, B, V1, hw⟩ := V
  obtain ⟨v, o2⟩ := o
  have eY : M1 Y = M Y := F1 _ (by omega)
  rw [e, obn_s]
  unfold b_Lw_219_447 b_Lw_219_460
  cases o2 with
  | none =>
    have hv : v < 0 := hO.1 rfl
    rw [if_pos hv, bnd_e, if_pos hv, show (0 : Int32) = nI 0 from rfl, nI_add]
    unfold b_Lw_219_467
    refine Gd.st (S := S) (h := h) (t := []) H1 fun M2 H2 F2 => ?_
    have eY2 : M2 Y = M Y := by rw [F2 _ (by omega), eY]
    rw [n_ckd (by omega) (by omega), show ix (nI (c + 0)) = c from n_ix (by omega), jat_row eY2, hw, if_pos (jcmp_e rfl)]
    exact kk M2 c S h (by omega) H2 B (V1.row eY2)
  | some S' =>
    obtain ⟨hv, hB⟩ := hO.2 S' rfl
    have hv : ¬ v < 0 := hv
    rw [if_neg hv, bnd_e, if_neg hv, show (1 : Int32) = nI 1 from rfl, nI_add]
    unfold b_Lw_219_480
    exact kk M1 (c + 1) S' (push S h) (by omega) H1 hB ((V1.psh H.len hw).row eY)
theorem P.jst {t : List Int32} {i : Nat} {v : Int64} (H : P M X S h t) (hY : X + 233 ≤ Y) : P (jst M Y i v) X S h t :=
  H.keep (fun b hb => jst_n (by omega)) (by rw [jst_n (by omega)]) (jst_n (by omega))
theorem lw_275 {rc : Mm → Int32 → Int32 → OR} {x4 x5 s0 : Int32} {r m : Nat} (hY : X + 233 ≤ Y) (H : P M X S h []) (B : Bd c S) (V : Hv M Y h c) (hm : 0 < m) (hm2 : m < 1000) (hc : c < 40)
    (kk : ∀ (M' : Mm) (c' : Nat) (S' : Sm) (h' : List Sm), c' ≤ c + 1 → P M' X S' h' [] → Bd c' S' → Hv M' Y h' c' → Gd Q (rc M' (nI c') (x4 + 1))) : Gd Q (b_Lw_219_275 b X N Y xs rc573 rc M (nI c) x4 x5 (nI r) s0 (nI m)) := by
  unfold b_Lw_219_275
  refine Gd.part m hm hm2 fun p hp => ?_
  refine Gd.st H fun M1 H1 F1 => ?_
  rw [n_ckd (by omega) (by omega), bnd_e, show ix (nI c) = c from n_ix (by omega)]
  have H2 : P (jst M1 Y c (hS S)) X S h [] := H1.jst hY
  have V2 : Sv (jst M1 Y c (hS S)) X Y S h c := by
    refine ⟨H2, B, ⟨V.1, fun i h1 h2 => ?_⟩, by rw [jat_st, if_pos rfl]⟩
    obtain ⟨S', e1, e2⟩ := V.2 i h1 h2
    exact ⟨S', e1, by rw [jat_st, if_neg (by omega), jat_row (F1 _ (by omega))]; exact e2⟩
  revert V2 H2
  generalize jst M1 Y c (hS S) = M2
  intro H2 V2
  split
  · unfold b_Lw_219_294
    exact lw_447 hY V2 (t_step H2 _ _) (o_step H2 B _ _) hc kk
  · split
    · unfold b_Lw_219_312
      refine Gd.part 51 (by omega) (by omega) fun p1 hp1 => ?_
      refine Gd.ask _ (t_count H2 8) rfl fun M3 H3 F3 => ?_
      refine Gd.part 100 (by omega) (by omega) fun p2 hp2 => ?_
      exact lw_447 hY (V2.fr hY H3 F3) (t_enter H3 _ _ _) (o_enter H3 B _ _ _) hc kk
    · split
      · unfold b_Lw_219_355
        refine Gd.part 20 (by omega) (by omega) fun p1 hp1 => ?_
        exact lw_447 hY V2 (t_leave H2 _ _) (o_leave H2 B (by omega) _ _) hc kk
      · split
        · unfold b_Lw_219_381
          exact lw_447 hY V2 (t_fetch H2 _) (o_fetch H2 B (by omega) _) hc kk
        · split
          · unfold b_Lw_219_397
            refine Gd.part 100 (by omega) (by omega) fun p1 hp1 => ?_
            exact lw_447 hY V2 (t_pass H2 _) (o_pass H2 B _) hc kk
          · split
            · unfold b_Lw_219_423
              refine Gd.part 41 (by omega) (by omega) fun p1 hp1 => ?_
              exact lw_447 hY V2 (t_pool H2 _) (o_pool H2 B _) hc kk
            · exact lw_447 hY V2 (t_step H2 _ _) (o_step H2 B _ _) hc kk
theorem lw_232 {rc : Mm → Int32 → Int32 → OR} {i : Nat} (hN : N < 1000) (hi : i < 40) (hY : X + 233 ≤ Y) (H : P M X S h []) (B : Bd c S) (V : Hv M Y h c) (hc : c < 40)
    (kk : ∀ (M' : Mm) (c' : Nat) (S' : Sm) (h' : List Sm), c' ≤ c + 1 → P M' X S' h' [] → Bd c' S' → Hv M' Y h' c' → Gd Q (rc M' (nI c') (nI i + 1))) : Gd Q (b_Lw_219_232 b X N Y xs rc573 rc M (nI c) (nI i)) := by
  unfold b_Lw_219_232
  rw [show (60 : Int32) = nI 60 from rfl, nI_add]
  refine Gd.take _ (by omega) hN fun v => ?_
  refine Gd.part 14 (by omega) (by omega) fun r hr => ?_
  unfold b_Lw_219_268
  split
  · exact lw_275 (m := 16) hY H B V (by omega) (by omega) hc kk
  · split
    · exact lw_275 (m := 16) hY H B V (by omega) (by omega) hc kk
    · exact lw_275 (m := 10) hY H B V (by omega) (by omega) hc kk
theorem drop_at {h : List Sm} {j : Nat} {S' : Sm} (e : h[j]? = some S') : h.drop j = S' :: h.drop (j + 1) := by
  obtain ⟨l, e⟩ := List.getElem?_eq_some_iff.mp e
  rw [List.drop_eq_getElem_cons l, e]
theorem lw_498 (hrc : ∀ M, rc573 M = some (1, M)) (hY : X + 233 ≤ Y) {M0 : Mm} (V : Hv M0 Y h c) (hc : c ≤ 40) : ∀ d j k (M : Mm) (S' : Sm), j + d = 5 → d < k → j ≤ c → M Y = M0 Y → P M X S' (h.drop j) [] → Gd Kn1 (l_Lw_219_498 b X N Y xs rc573 (nI c) k M (nI (j + 1))) := by
  intro d
  induction d with
  | zero =>
    intro j k M S' hj hk hjc eY H
    obtain ⟨k, rfl⟩ : ∃ x, k = x + 1 := ⟨k - 1, by omega⟩
    rw [l_Lw_219_498, if_pos (by rw [show (5 : Int32) = nI 5 from rfl, n_lt (by omega) (by omega)]; omega)]
    unfold b_Lw_219_557
    rw [if_pos (by rw [show (4 : Int32) = nI 4 from rfl, n_lt (by omega) (by omega)]; omega)]
    unfold b_Lw_219_562
    have e : h.drop j = [] := List.drop_eq_nil_of_le (by rw [V.1 (by omega)]; omega)
    rw [e] at H
    refine Gd.un0 H fun M1 _ _ => ?_
    rw [if_pos (by decide), hrc]
    exact ⟨_, rfl, rfl⟩
  | succ d ih =>
    intro j k M S' hj hk hjc eY H
    obtain ⟨k, rfl⟩ : ∃ x, k = x + 1 := ⟨k - 1, by omega⟩
    rw [l_Lw_219_498, if_neg (by rw [show (5 : Int32) = nI 5 from rfl, n_lt (by omega) (by omega)]; omega)]
    by_cases g : c < j + 1
    · rw [if_pos (by rw [n_lt (by omega) (by omega)]; exact g)]
      unfold b_Lw_219_557
      rw [if_neg (by rw [show (4 : Int32) = nI 4 from rfl, n_lt (by omega) (by omega)]; omega), hrc]
      exact ⟨_, rfl, rfl⟩
    · rw [if_neg (by rw [n_lt (by omega) (by omega)]; exact g)]
      obtain ⟨S1, e1, e2⟩ := V.2 j (by omega) (by omega)
      rw [drop_at e1] at H
      have hl := H.len
      rw [List.length_cons] at hl
      unfold b_Lw_219_510
      refine Gd.un _ H rfl fun M1 H1 F1 => ?_
      rw [if_neg (pos_n (by omega))]
      unfold b_Lw_219_521
      refine Gd.st H1 fun M2 H2 F2 => ?_
      have eY2 : M2 Y = M0 Y := by rw [F2 _ (by omega), F1 _ (by omega), eY]
      have go : Gd Kn1 (b_Lw_219_551 b X N Y xs rc573 (l_Lw_219_498 b X N Y xs rc573 (nI c) k) M2 (nI c) (nI (j + 1))) := by
        unfold b_Lw_219_551
        rw [show (1 : Int32) = nI 1 from rfl, nI_add]
        exact ih (j + 1) k M2 S1 (by omega) (by omega) (by omega) eY2 H2
      rw [n_sub (by omega), n_ckd (by omega) (by omega), show ix (nI (c - (j + 1))) = c - (j + 1) from n_ix (by omega), jat_row eY2, show c - (j + 1) = c - 1 - j by omega, e2, if_pos (jcmp_e rfl)]
      by_cases g4 : 4 < c
      · rw [if_pos (by rw [show (4 : Int32) = nI 4 from rfl, n_lt (by omega) (by omega)]; exact g4), if_pos ?_]
        · exact go
        · rw [show (5 : Int32) = nI 5 from rfl, n_sub (by omega), List.length_drop, V.1 (by omega)]
      · rw [if_neg (by rw [show (4 : Int32) = nI 4 from rfl, n_lt (by omega) (by omega)]; exact g4)]
        exact go
theorem lw_225 (hN : N < 1000) (hrc : ∀ M, rc573 M = some (1, M)) (hY : X + 233 ≤ Y) : ∀ d i k (M : Mm) (S : Sm) (h : List Sm) (c : Nat), i + d = 40 → d < k → c ≤ i → P M X S h [] → Bd c S → Hv M Y h c → Gd Kn1 (l_Lw_219_225 b X N Y xs rc573 k M (nI c) (nI i)) := by
  intro d
  induction d with
  | zero =>
    intro i k M S h c hi hk hc H B V
    obtain ⟨k, rfl⟩ : ∃ x, k = x + 1 := ⟨k - 1, by omega⟩
    rw [l_Lw_219_225, if_neg (by rw [show (40 : Int32) = nI 40 from rfl, n_lt (by omega) (by omega)]; omega)]
    refine Gd.ask 1 (t_refused H) rfl fun M1 H1 F1 => ?_
    rw [if_neg (by decide)]
    exact lw_498 hrc hY (M0 := M1) (V.row (F1 _ (by omega))) (by omega) 5 0 FU M1 S (by omega) (by show _ < 4000; omega) (by omega) rfl H1
  | succ d ih =>
    intro i k M S h c hi hk hc H B V
    obtain ⟨k, rfl⟩ : ∃ x, k = x + 1 := ⟨k - 1, by omega⟩
    rw [l_Lw_219_225, if_pos (by rw [show (40 : Int32) = nI 40 from rfl, n_lt (by omega) (by omega)]; omega)]
    refine lw_232 hN (by omega) hY H B V (by omega) fun M' c' S' h' hc' H' B' V' => ?_
    rw [show (1 : Int32) = nI 1 from rfl, nI_add]
    exact ih (i + 1) k M' S' h' c' (by omega) (by omega) (by omega) H' B' V'
/-- from the wires that the script gives: all forty calls, and all back -/
theorem lw_219 (hN : N < 1000) (hrc : ∀ M, rc573 M = some (1, M)) (hY : X + 233 ≤ Y) (H : P M X S h []) (B : Bd 0 S) : Gd Kn1 (f_L_law_219 b X N Y xs rc573 M) :=
  lw_225 hN hrc hY 40 0 FU M S h 0 (by omega) (by show _ < 4000; omega) (by omega) H B ⟨fun h => by omega, fun i _ h => by omega⟩
end LE
