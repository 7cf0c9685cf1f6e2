section GN10
variable {l : Launch} {w : Wp} {L : Ly} {E : Cx} {M : Mm} {lv : List (Nat × Value)} {pc : Nat} {st : List Value} {own : String} {cc : ByteArray} {maxL n : Nat} {h0 sz cells slots : Nat} {P : va_W}
/-- .. of another class -/
theorem n_newM (cx : OkN w E own cc maxL n h0) {index idx2 : Nat} {C : String} {T : u_T} {N ci : Nat} (hc : vwCl[ci]? = some (C, T, N)) (hin : ∀ q ∈ u_ws C T N, q ∈ TB) (ty : Nat → FieldType) (hty : ∀ k, k < N → parseFieldDescriptor (T k).2.2.1 = some (ty k)) (hcl : Cond.classLink own index C ∈ TB) (hinst : Cond.instantiable C N ∈ TB) (hini : Cond.initialized C ∈ TB) {fs : List Value} (hfs : ∀ j, j < N → defaultValue (ty j) = vp_V fs j)
    {y : MethodName} {c1 : ByteArray} {m1 n1 K s1 : Nat} (hM : CN l w L M y c1 m1 n1 ci fs K s1 sz) (k1 : Cond.methodLink own idx2 y ∈ TB) (k2 : Cond.instanceMethod y ∈ TB) (k4 : Cond.initialized y.cls ∈ TB) (k5 : Cond.code y c1 m1 none ∈ TB) (k6 : (y.cls ≠ "java/lang/invoke/MethodHandle" ∧ y.cls ≠ "java/lang/invoke/VarHandle") ∧ (parseMethodDescriptor y.desc).map (fun d => d.parameters.length) = some 0) (k7 : y.name = "<init>") (k9 : m1 ≤ 13) (hn : n1 + 1 ≤ n)
    (hz : h0 ≤ sz) (hK : 1 ≤ K) (hP : ∀ x ∈ P, x.1 < sz) (hcells : cells + K ≤ (xR E).cells) (hslots : slots + N + s1 ≤ (xR E).slots) (hst : ((Value.ref sz :: st).map fun v => v.category).sum ≤ 8)
    (hd0 : decode cc pc = .ok (.new index, 3)) (hd1 : decode cc (pc + 3) = .ok (.dup, 1)) (hd2 : decode cc (pc + 3 + 1) = .ok (.invokespecial idx2, 3)) (kk : GN l w L E M h0 (sz + K) P (cells + 1 + (K - 1)) (slots + N + s1) lv (pc + 3 + 1 + 3) (.ref sz :: st)) : GN l w L E M h0 sz P cells slots lv pc st := by
  intro H locs ls h1 h2 h3 h4 h5
  have hts := cx.2.2.2.2.1
  have hKn := cx.2.2.2.2.2.1.1.1 ci _ hc
  have sub := cx.2.2.2.2.2.2.1
  refine W.newcK cx.1 cx.2.1 cx.2.2.2.1 (hts _ hcl) (hts _ hinst) (hts _ hini) rfl hd0 (by omega) (by omega) hKn.2.1 h1 fun H1 kC hkC e1 z1 o1 => ?_
  have hob : va_at w.1 vwCl (sz, .inr (ci, fs)) H1 := ⟨_, hc, (u_born ty hts hin hKn hkC e1 hty).to hfs⟩
  refine lv_dup cx.1 cx.2.1 hd1 rfl ?_
  have f1 := cx.2.2.2.2.2.2.2.1
  have f2 := cx.2.2.2.2.2.2.2.2.1
  refine n_back cx hz hK z1 (fun k q hq => at_same (h2 k q hq) (o1 _ (hP q (List.mem_of_getElem? hq)))) hP (fun a a1 a2 a3 g hg => at_same (h3 a a1 a2 a3 g hg) (o1 _ a2)) ⟨by rw [z1]; have := h4.1; omega, fun q q1 q2 => by
      have := h4.1
      rw [o1 q (by omega)]
      exact h4.2.1 q q1 q2, h4.2.2⟩ h5
    (va_runI (As := []) (rest := .ref sz :: st) (b := sz) (nL := maxL) (n := 0) ⟨cx.1, cx.2.1, cx.2.2.1, cx.2.2.2.1, hts⟩ hM ⟨⟨rfl, rfl, by show n1 + 1 ≤ _; omega, by show 8 + (m1 + 11) + 32 * n1 ≤ _; omega, pay_tb hts k5, List.mem_cons_self, hts _ k5, hts _ k4, k6.1, fun sig h => ?_, hts _ k1⟩, k7, hts _ k2⟩ ⟨fb_PcN, fun U hU hW => ⟨rfl, by rw [hU]; exact z1, by rw [hU]; exact hob, cx.2.2.2.2.2.1.warm hW, va_AO.moved hW.alike cx.2.2.2.2.2.2.2.2.2.2⟩⟩ rfl rfl (by rw [← cx.2.2.1]; exact h5.1) rfl (lv_room hst) hd2 ⟨by omega, by omega⟩) kk
  have h8 := k6.2
  rw [h] at h8
  exact (Option.some.inj h8).symm
theorem k_X8 (hL : LTramWires w L h0) (hM : ∀ i j, i < 233 → ¬ (j = 1 ∧ (i = 9 ∨ i = 43 ∨ i = 75 ∨ i = 107 ∨ i = 139 ∨ i = 171 ∨ i = 209)) → i ≠ 34 → M (h0 + i) j = nI 0) (hst : ∀ t, t < 5 → M (h0 + 34) t = nI t) (hb : ∀ i, (i = 9 ∨ i = 43 ∨ i = 75 ∨ i = 107 ∨ i = 139 ∨ i = 171 ∨ i = 209) → M (h0 + i) 1 = nI 12) : CN l w L M yX8_init cX8_init 1 4 8 [.null, .null, .null, .null, .null] 233 2917 h0 := by
  refine CN_of (by decide +kernel) rfl (Nat.le_refl _) fun E cx en => ?_
  have hA : xF E h0 := (cx.2.2.2.2.2.2.1 h0).mp (Nat.le_refl _)
  have ec : (xR E).cells = 232 := en.2.2.2.2.2.1
  have es : (xR E).slots = 2917 := en.2.2.2.2.2.2
  have hnm := en.2.2.2.2.1
  have mv : ∀ a i j, a = h0 + i → i < 233 → ¬ (j = 1 ∧ (i = 9 ∨ i = 43 ∨ i = 75 ∨ i = 107 ∨ i = 139 ∨ i = 171 ∨ i = 209)) → i ≠ 34 → M a j = nI 0 := fun a i j e h1 h2 h3 => by rw [e]; exact hM i j h1 h2 h3
  have mb : ∀ a i, a = h0 + i → (i = 9 ∨ i = 43 ∨ i = 75 ∨ i = 107 ∨ i = 139 ∨ i = 171 ∨ i = 209) → M a 1 = nI 12 := fun a i e h1 => by rw [e]; exact hb i h1
  refine n_aload_n cx dX8_init_0 rfl 0 rfl ?_
  refine n_obj cx ob_X8 ob_i ob_c (by decide) dX8_init_1 ?_ (by decide)
  refine n_aload_n cx dX8_init_4 rfl 0 rfl ?_
  refine n_newN cx (ci := 7) rfl in_X7 tyX7 tyX7_ok cl_X8_7 ins_X7 ini_X7 df_X7 (k_X7 (LTramWires_now hL) (fun i j hi h => mv _ (1 + i) j (by omega) (by omega) (by omega) (by omega)) (mb _ 9 (by omega) (by omega))) tn_X8_9 im_X7 ini_X7 co_X7 (by decide) rfl (by decide) (by decide) (by omega) (by omega) (lt_one (by omega)) (by omega) (by omega) (Nat.le_of_ble_eq_true rfl) dX8_init_5 dX8_init_8 dX8_init_9 ?_
  refine n_putF (v := .ref (h0 + 1)) (ty := .object RX7) cx (ci := 8) rfl in_X8 tyX8 tyX8_ok nmX8 (d_one hA) 0 rfl 0 (by decide) tf_X8_10 rfl rfl hnm rfl (by decide +kernel) rfl rfl (by show _ < 5; decide) dX8_init_12 ?_
  refine n_aload_n cx dX8_init_15 rfl 0 rfl ?_
  refine n_newM cx (ci := 0) rfl in_X0 tyX0 tyX0_ok cl_X8_16 ins_X0 ini_X0 df_X0 (k_X0 (LTramWires_history hL) (mv _ 33 0 (by omega) (by omega) (by omega) (by omega)) (fun t h => (congrArg (fun q => M q t) (show h0 + 1 + 32 + 1 = h0 + 34 by omega)).trans (hst t h)) (fun j hj i k hi h => mv _ (35 + 32 * j + i) k (by omega) (by omega) (by omega) (by omega)) (fun j hj => mb _ (35 + 32 * j + 8) (by omega) (by omega))) tm_X8_18 im_X0 ini_X0 co_X0 (by decide) rfl (by decide) (by decide) (by omega) (by omega) (lt_one (by omega)) (by omega) (by omega) (Nat.le_of_ble_eq_true rfl) dX8_init_16 dX8_init_19 dX8_init_20 ?_
  refine n_putF (v := .ref (h0 + 33)) (ty := .object RX0) cx (ci := 8) rfl in_X8 tyX8 tyX8_ok nmX8 (d_one hA) 0 rfl 1 (by decide) tf_X8_19 rfl rfl hnm rfl (by decide +kernel) rfl rfl (by show _ < 5; decide) dX8_init_23 ?_
  refine n_aload_n cx dX8_init_26 rfl 0 rfl ?_
  refine n_newN cx (ci := 6) rfl in_X6 tyX6 tyX6_ok cl_X8_23 ins_X6 ini_X6 df_X6 (k_X6 (LTramWires_text hL) (fun i j hi => mv _ (195 + i) j (by omega) (by omega) (by omega) (by omega))) tn_X8_25 im_X6 ini_X6 co_X6 (by decide) rfl (by decide) (by decide) (by omega) (by omega) (lt_one (by omega)) (by omega) (by omega) (Nat.le_of_ble_eq_true rfl) dX8_init_27 dX8_init_30 dX8_init_31 ?_
  refine n_putF (v := .ref (h0 + 195)) (ty := .object RX6) cx (ci := 8) rfl in_X8 tyX8 tyX8_ok nmX8 (d_one hA) 0 rfl 2 (by decide) tf_X8_26 rfl rfl hnm rfl (by decide +kernel) rfl rfl (by show _ < 5; decide) dX8_init_34 ?_
  refine n_aload_n cx dX8_init_37 rfl 0 rfl ?_
  refine n_newN cx (ci := 3) rfl in_X3 tyX3 tyX3_ok cl_X8_30 ins_X3 ini_X3 df_X3 (k_X3 (LTramWires_outPlan hL) (fun i j hi => mv _ (197 + i) j (by omega) (by omega) (by omega) (by omega))) tn_X8_32 im_X3 ini_X3 co_X3 (by decide) rfl (by decide) (by decide) (by omega) (by omega) (lt_one (by omega)) (by omega) (by omega) (Nat.le_of_ble_eq_true rfl) dX8_init_38 dX8_init_41 dX8_init_42 ?_
  refine n_putF (v := .ref (h0 + 197)) (ty := .object RX3) cx (ci := 8) rfl in_X8 tyX8 tyX8_ok nmX8 (d_one hA) 0 rfl 3 (by decide) tf_X8_33 rfl rfl hnm rfl (by decide +kernel) rfl rfl (by show _ < 5; decide) dX8_init_45 ?_
  refine n_aload_n cx dX8_init_48 rfl 0 rfl ?_
  refine n_newN cx (ci := 4) rfl in_X4 tyX4 tyX4_ok cl_X8_37 ins_X4 ini_X4 df_X4 (k_X4 (LTramWires_rehearsal hL) (fun i j hi h => mv _ (200 + i) j (by omega) (by omega) (by omega) (by omega)) (mb _ 209 (by omega) (by omega))) tn_X8_39 im_X4 ini_X4 co_X4 (by decide) rfl (by decide) (by decide) (by omega) (by omega) (lt_one (by omega)) (by omega) (by omega) (Nat.le_of_ble_eq_true rfl) dX8_init_49 dX8_init_52 dX8_init_53 ?_
  refine n_putF (v := .ref (h0 + 200)) (ty := .object RX4) cx (ci := 8) rfl in_X8 tyX8 tyX8_ok nmX8 (d_one hA) 0 rfl 4 (by decide) tf_X8_40 rfl rfl hnm rfl (by decide +kernel) rfl rfl (by show _ < 5; decide) dX8_init_56 ?_
  refine n_vret cx en rfl (fun g hg => ?_) dX8_init_59
  rw [LTramWires_o hL] at hg
  cases hg
  show (Sum.inr (8, fO (ksTramWires h0) (M h0)) : va_E) = _
  congr 2
end GN10
