/-! the law, from its entry to its loop -/
theorem df_X8 : ∀ j, j < 5 → defaultValue (tyX8 j) = vp_V [.null, .null, .null, .null, .null] j := fun j hj => by
  match j, hj with
  | 0, _ => rfl
  | 1, _ => rfl
  | 2, _ => rfl
  | 3, _ => rfl
  | 4, _ => rfl
  | j + 5, h => omega
set_option maxRecDepth 100000 in
theorem ao_T : Cond.arrayOver (.object RX7) ∈ lw_tbl := List.mem_of_getElem? (i := 270) (by decide +kernel)
section K13
variable {l : Launch} {w : Wp} {L : Ly} {E : Cx} {M : Mm} {lv : List (Nat × Value)} {pc : Nat} {st : List Value} {own : String} {cc : ByteArray} {maxL n : Nat} {h0 sz cells slots : Nat} {P : va_W}
theorem n_astore_n (cx : OkN w E own cc maxL n h0) {j : Fin 4} {i x : Nat} (lv' : List (Nat × Value)) (hd : decode cc pc = .ok (.astore_n j, 1)) (hi : (j : Nat) = i) (hn : i < maxL) (hl : (i, Value.ref x) :: lv.filter (fun q => !(q.1 == i) && !(q.1 + 1 == i && q.2.category == 2)) = lv') (k : GN l w L E M h0 sz P cells slots lv' (pc + 1) st) : GN l w L E M h0 sz P cells slots lv pc (.ref x :: st) :=
  fun H locs _ h1 h2 h3 h4 h5 => lv_astore_n cx.1 cx.2.1 hd hi h5 (by rw [cx.2.2.1]; exact hn) hl (fun ls h => k H locs ls h1 h2 h3 h4 h)
theorem law_begins {X b : Nat} (cx : OkN w E RL cL_law 4 10 X) (ec : (xR E).cells = 600000) (es : (xR E).slots = 7302250) (hB : w.2.2.2.2 = X + 35) (kk : GN l w (lyF w X) E (M00 X) X (X + 233 + 6) [] (0 + 1 + (233 - 1) + 1 + (6 - 1)) (0 + 5 + 2917 + 13 + 1710) [(3, .int (nI 0)), (2, .ref (X + 233)), (1, .ref X), (0, .ref b)] 18 []) : GN l w (lyF w X) E (M00 X) X X [] 0 0 [(0, .ref b)] 0 [] := by
  refine n_newM cx (ci := 8) rfl in_X8 tyX8 tyX8_ok cl_L_7 ins_X8 ini_X8 df_X8 (c_X8 l w X hB) tm_L_9 im_X8 ini_X8 co_X8 (by decide) rfl (by decide) (by decide) (by omega) (by omega) (fun _ h => absurd h List.not_mem_nil) (by omega) (by omega) (Nat.le_of_ble_eq_true rfl) dL_law_0 dL_law_3 dL_law_4 ?_
  refine n_astore_n cx [(1, .ref X), (0, .ref b)] dL_law_7 rfl (by decide) rfl ?_
  refine n_newM cx (ci := 9) rfl in_X9 tyX9 tyX9_ok cl_L_10 ins_X9 ini_X9 df_X9 (c_X9 l w X) tm_L_12 im_X9 ini_X9 co_X9 (by decide) rfl (by decide) (by decide) (by omega) (by omega) (fun _ h => absurd h List.not_mem_nil) (by omega) (by omega) (Nat.le_of_ble_eq_true rfl) dL_law_8 dL_law_11 dL_law_12 ?_
  refine n_astore_n cx [(2, .ref (X + 233)), (1, .ref X), (0, .ref b)] dL_law_15 rfl (by decide) rfl ?_
  refine n_iconst (v := nI 0) cx dL_law_16 (by decide) ?_
  refine n_istore_n cx [(3, .int (nI 0)), (2, .ref (X + 233)), (1, .ref X), (0, .ref b)] dL_law_17 rfl (by decide) rfl ?_
  exact kk
theorem law_goes {X b N k : Nat} {xs : Nat → Int32} {R0 : Int32 × Mm} (cx : OkN w E RL cL_law 4 10 X) (ec : (xR E).cells = 600000) (es : (xR E).slots = 7302250) (hB : w.2.2.2.2 = X + 35) (en : EnL E b R0) (sc : Sc E b N xs) (hf : l_L_law_18 b X (X + 233) N xs k (M00 X) (nI 0) = some R0) : GN l w (lyF w X) E (M00 X) X X [] 0 0 [(0, .ref b)] 0 [] := by
  refine law_begins cx ec es hB fun H locs ls h1 h2 h3 h4 h5 => ?_
  have e4 : xN E = 600000 := en.2.2.2.1
  have e5 : xT E = 7302250 := en.2.2.2.2.1
  have cx2 : Ok w (lyF w X) E RL cL_law 4 10 := ⟨cx.1, cx.2.1, cx.2.2.1, cx.2.2.2.1, cx.2.2.2.2.1, cx.2.2.2.2.2.1, fun q hq => (cx.2.2.2.2.2.2.1 q).mp (ly_lt w X hq).1, cx.2.2.2.2.2.2.2.1, cx.2.2.2.2.2.2.2.2.1, by omega, by omega⟩
  refine W.widen (k := xN E) (n := xT E) (by omega) (by omega) ?_
  exact w_L_law_18 cx2 en (ly_T w X hB) (ly_M w X) sc k hf H locs ls (fun a g hg => by
    obtain ⟨a1, a2⟩ := ly_lt w X (a := a) (by rw [hg]; exact Option.some_ne_none _)
    exact h3 a a1 (by omega) (fun x hx => absurd hx List.not_mem_nil) g hg) h4 (lv_sub h5 [3, 2, 1, 0] rfl)
end K13
