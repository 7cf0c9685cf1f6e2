/-! the law, from its entry to its end -/
set_option maxRecDepth 100000 in
theorem ao_T : Cond.arrayOver (.object RX7) ∈ lw_tbl := List.mem_of_getElem? (i := 227) (by decide +kernel)
section LF
variable {l : Launch} {w : Wp} {L : Ly} {E : Cx} {M : Mm} {lv : List (Nat × Value)} {b N X : Nat} {xs : Nat → Int32}
def E0 (E : Cx) (b : Nat) : Prop := xQ E = lw_Z (xB E) #[Value.ref b] (xS E) ∧ xA E = #[Value.ref b] ∧ xR E = room_1 ∧ (∀ q, xF E q → (xS E).heap.size ≤ q) ∧ (xY E).sig.returnType = ret ∧ (xY E).locks = false
theorem E0.en {R0 : Int32 × Mm} (e : E0 E b) (h : R0.1 = 1) (c s : Nat) : EnL (setN E c s) b R0 := ⟨e.1, e.2.1, e.2.2.1, e.2.2.2.1, h, e.2.2.2.2⟩
theorem E0.st (e : E0 E b) (c s : Nat) : E0 (setN E c s) b := e
theorem E0.cs (e : E0 E b) : (xR E).cells = 600000 ∧ (xR E).slots = 7302250 := by rw [e.2.2.1]; exact ⟨rfl, rfl⟩
theorem lw_573 (cx : Oe w E RL cL_law 9 9) (e : E0 E b) (h1 : xN E + 233 ≤ 600000) (h2 : xT E + 2922 ≤ 7302250) : G l w L E M lv 573 [] := by
  obtain ⟨ec, es⟩ := e.cs
  refine g_newT (pc := 573) cx (by decide) cl_L_14 tm_L_94 (by omega) (by omega) (by decide) dL_law_573 dL_law_576 dL_law_577 fun X hX => ?_
  obtain ⟨R0, f, k⟩ := lw_580 (b := b) (p_00 X)
  refine g_sub [] [] rfl ?_
  exact c_L_law_580 (R0 := R0) ((cx.nw X (xN E + 233) (xT E + 2922)).ok (lyG_ge hX) (by show xN E + 233 ≤ (xR E).cells; omega) (by show xT E + 2922 ≤ (xR E).slots; omega)) (e.en k _ _) (ly_T _ _ _ rfl) f
theorem ly_J {Y : Nat} {g : (Nat → Int32) → va_E} (hY : X + 233 ≤ Y) : (fun a => if a = Y then some g else lyG w X noL a) = lyG w X (fun a => if a = Y then some g else none) := by
  funext a
  by_cases c : a = Y
  · subst c
    rw [if_pos rfl, ly_out _ _ _ (Or.inr hY), if_pos rfl]
  · rw [if_neg c]
    by_cases d : a < X ∨ X + 233 ≤ a
    · rw [ly_out _ _ _ d, ly_out _ _ _ d, if_neg c]
      rfl
    · unfold lyG
      rw [if_neg (by omega), if_neg (by omega), if_neg (by omega), if_neg (by omega)]
theorem ly_b {b : Nat} (hb : b < X) : lyG w X noL b = none := ly_out w X noL (Or.inl hb)
theorem lw_215 (cx : Oe (wB w X) E RL cL_law 9 9) (e : E0 E b) (sc : Sc E b N xs) (hN : N < 1000) (hX : (xS E).heap.size ≤ X) {S : Sm} {h : List Sm} (H : P M X S h []) (B : Bd 0 S) (h1 : xN E + 1 + 233 ≤ 600000) (h2 : xT E + 48 + 2922 ≤ 7302250) :
    G l (wB w X) (lyG (wB w X) X noL) E M [(0, .ref b), (1, .ref X)] 215 [] := by
  obtain ⟨ec, es⟩ := e.cs
  have ok : Ok (wB w X) (lyG (wB w X) X noL) E RL cL_law 9 9 := cx.ok (lyG_ge hX) (by omega) (by omega)
  refine g_bipush (pc := 215) (v := 48) ok dL_law_215 (by decide) ?_
  refine g_newJ (pc := 217) (N := 48) ok cx.2.2.2.2.2.2.1 (by decide) (by decide) (by decide) (by omega) (by omega) dL_law_217 fun Y cJ hlt hYs hJ => ?_
  have hY : X + 233 ≤ Y := by
    have := hlt (X + 232) (by rw [ly_at _ _ _ 232 rfl]; exact Option.some_ne_none _)
    omega
  rw [ly_J hY]
  have H2 : P (mrow M Y fun _ => 0) X S h [] := H.keep (fun b hb => mrow_ne (by omega)) (by rw [mrow_ne (by omega)]) (mrow_ne (by omega))
  obtain ⟨R0, f, k⟩ := lw_219 (b := b) (xs := xs) (rc573 := fun M => some (1, M)) hN (fun _ => rfl) hY H2 B
  have cx2 : Oe (wB w X) (setN E (xN E + 1) (xT E + 48)) RL cL_law 9 9 := cx
  have e2 : E0 (setN E (xN E + 1) (xT E + 48)) b := e
  refine g_sub [1, 0] [(1, .ref X), (0, .ref b)] rfl ?_
  refine c_L_law_219 (R0 := R0) (cx2.ok (fun q hq => ?_) (by show xN E + 1 ≤ (xR E).cells; omega) (by show xT E + 48 ≤ (xR E).slots; omega)) (e.en k _ _) hJ (ly_T _ _ _ rfl) sc ?_ ?_ (fun M _ => lw_573 cx2 e2 (by show xN E + 1 + 233 ≤ _; omega) (by show xT E + 48 + 2922 ≤ _; omega)) f
  · show (xS E).heap.size ≤ q
    by_cases c : q < X
    · rw [ly_out _ _ _ (Or.inl c)] at hq
      have : q = Y := by
        by_cases d : q = Y
        · exact d
        · rw [if_neg d] at hq; exact absurd rfl hq
      omega
    · omega
  · have hb : b < (xS E).heap.size := sc.2.1
    rw [ly_out _ _ _ (Or.inl (by omega)), if_neg (by omega)]
  · rw [ly_out _ _ _ (Or.inr hY), if_pos rfl]
theorem lw_27 (cx : Oe w E RL cL_law 9 9) (e : E0 E b) (sc : Sc E b N xs) (hN : N < 1000) (h1 : xN E + 467 ≤ 600000) (h2 : xT E + 5892 ≤ 7302250) : G l w L E M [(0, .ref b)] 27 [] := by
  obtain ⟨ec, es⟩ := e.cs
  refine g_newT (pc := 27) cx (by decide) cl_L_14 tm_L_94 (by omega) (by omega) (by decide) dL_law_27 dL_law_30 dL_law_31 fun X hX => ?_
  obtain ⟨R0, f, k1, S, h, HP, HB⟩ := lw_34 (b := b) (N := N) (xs := xs) (rc := fun M => some (1, M)) hN (fun _ => rfl) (p_00 X)
  have cx2 : Oe (wB w X) (setN E (xN E + 233) (xT E + 2922)) RL cL_law 9 9 := cx
  have e2 : E0 (setN E (xN E + 233) (xT E + 2922)) b := e
  have sc2 : Sc (setN E (xN E + 233) (xT E + 2922)) b N xs := sc
  have hb : b < (xS E).heap.size := sc.2.1
  refine c_L_law_34 (R0 := R0) (rc215 := fun M => some (1, M)) (cx2.ok (lyG_ge hX) (by show xN E + 233 ≤ (xR E).cells; omega) (by show xT E + 2922 ≤ (xR E).slots; omega)) (e.en k1 _ _) (ly_T _ _ _ rfl) sc2 (ly_b (by omega)) (fun M1 hf => ?_) f
  have hM : M1 = R0.2 := by cases hf; rfl
  rw [hM]
  exact lw_215 cx2 e2 sc2 hN hX HP HB (by show xN E + 233 + 1 + 233 ≤ _; omega) (by show xT E + 2922 + 48 + 2922 ≤ _; omega)
theorem lw_12 (cx : Oe w E RL cL_law 9 9) (e : E0 E b) (sc : Sc E b N xs) (hN : N < 1000) (h1 : xN E + 700 ≤ 600000) (h2 : xT E + 8814 ≤ 7302250) : G l w L E M [(0, .ref b)] 12 [] := by
  obtain ⟨ec, es⟩ := e.cs
  refine g_newT (pc := 12) cx (by decide) cl_L_14 tm_L_94 (by omega) (by omega) (by decide) dL_law_12 dL_law_15 dL_law_16 fun X hX => ?_
  obtain ⟨R0, f, k⟩ := lw_19 (b := b) (N := N) (xs := xs) (p_00 X)
  have cx2 : Oe (wB w X) (setN E (xN E + 233) (xT E + 2922)) RL cL_law 9 9 := cx
  have e2 : E0 (setN E (xN E + 233) (xT E + 2922)) b := e
  have sc2 : Sc (setN E (xN E + 233) (xT E + 2922)) b N xs := sc
  have hb : b < (xS E).heap.size := sc.2.1
  exact c_L_law_19 (R0 := R0) (rc27 := fun M => some (1, M)) (cx2.ok (lyG_ge hX) (by show xN E + 233 ≤ (xR E).cells; omega) (by show xT E + 2922 ≤ (xR E).slots; omega)) (e.en k _ _) (ly_T _ _ _ rfl) sc2 (ly_b (by omega)) (fun M1 _ => lw_27 cx2 e2 sc2 hN (by show xN E + 233 + 467 ≤ _; omega) (by show xT E + 2922 + 5892 ≤ _; omega)) f
theorem hm_no {H : Heap} : HM w noL (fun _ _ => 0) H := fun a g hg => by cases hg
def ZB1 (_ : Nat) (v : Value) (w2 : Wp) (L2 : Ly) (_ : Mm) (w : Wp) : Prop := v = .int 1 ∧ w2 = w ∧ L2 = noL
theorem qb_z (w : Wp) : ∀ (X : Nat) (a : Array Value) (s : State) (o : Outcome) (t : State), QB (fun q => X ≤ q) a s o t → ∃ v w2 L2 M2, ZB1 X v w2 L2 M2 w ∧ o = .returned (some v) ∧ HM w2 L2 M2 t.heap ∧ va_F (fun q => X ≤ q) s t :=
  fun X a s o t h => ⟨.int 1, w, noL, fun _ _ => 0, ⟨rfl, rfl, rfl⟩, h.1, hm_no, h.2⟩
theorem noL_ok {x : Nat} : ∀ q, noL q ≠ none → x ≤ q := fun _ h => absurd rfl h
theorem lw_0 (cx : Oe w E RL cL_law 9 9) (e : E0 E b) (sc : Sc E b N xs) (hN : N < 1000) (h1 : xN E = 0) (h2 : xT E = 0) : G l w noL E (fun _ _ => 0) [(0, .ref b)] 0 [] := by
  obtain ⟨ec, es⟩ := e.cs
  refine g_callC (pc := 0) cx lk_L_167 (by decide) (cn_texts l w) (by omega) (by omega) dL_law_0 (by decide) (fun X v w2 L2 M2 => ZB1 X v w2 L2 M2 w) (qb_z w) ?_
  intro X1 v w2 L2 M2 hX1 ⟨e1, e2, e3⟩
  subst e1 e2 e3
  rw [h1, h2]
  have cx2 : Oe w2 (setN E (0 + 233) (0 + 2922)) RL cL_law 9 9 := cx
  refine g_if_eq (pc := 3) (tgt := 25) (A := none) (B := some (0, M2)) (R0 := (0, M2)) (cx2.ok noL_ok (by show 0 + 233 ≤ (xR E).cells; omega) (by show 0 + 2922 ≤ (xR E).slots; omega)) dL_law_3 rfl (if_neg (by decide)) (fun h => by cases h) fun _ => ?_
  refine g_callC (pc := 6) cx2 lk_L_171 (by decide) (cn_known l w2) (by show 0 + 233 + 233 ≤ (xR E).cells; omega) (by show 0 + 2922 + 2922 ≤ (xR E).slots; omega) dL_law_6 (by decide) (fun X v w3 L3 M3 => ZB1 X v w3 L3 M3 w2) (qb_z w2) ?_
  intro X2 v w3 L3 M3 hX2 ⟨e1, e2, e3⟩
  subst e1 e2 e3
  have cx3 : Oe w3 (setN E (0 + 233 + 233) (0 + 2922 + 2922)) RL cL_law 9 9 := cx
  show G l w3 noL (setN E (0 + 233 + 233) (0 + 2922 + 2922)) M3 [(0, .ref b)] 9 [.int 1]
  refine g_if_eq (pc := 9) (tgt := 25) (A := none) (B := some (0, M3)) (R0 := (0, M3)) (cx3.ok noL_ok (by show 0 + 233 + 233 ≤ (xR E).cells; omega) (by show 0 + 2922 + 2922 ≤ (xR E).slots; omega)) dL_law_9 rfl (if_neg (by decide)) (fun h => by cases h) fun _ => ?_
  exact lw_12 cx3 e sc hN (by show 0 + 233 + 233 + 700 ≤ _; omega) (by show 0 + 2922 + 2922 + 8814 ≤ _; omega)
end LF
