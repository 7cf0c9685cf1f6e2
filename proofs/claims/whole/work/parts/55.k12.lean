/-! the layout, from the first new cell on -/
def lsNet (w : Wp) (a : Nat) : List ((Nat → Int32) → va_E) := [gO 2 (ksNet a)] ++ [gI w 10] ++ [gI w 16] ++ [gI w 16] ++ [gZ w 16] ++ [gI w 10] ++ [gZ w 10]
def lsService (w : Wp) (a : Nat) : List ((Nat → Int32) → va_E) := [gO 5 (ksService a)] ++ [gI w 10] ++ [gZ w 10] ++ [gZ w 10] ++ [gZ w 10] ++ [gI w 10] ++ [gI w 10] ++ [gI w 10]
def lsLog (w : Wp) (a : Nat) : List ((Nat → Int32) → va_E) := [gO 1 (ksLog a)] ++ [gI w 24] ++ [gI w 24] ++ [gI w 24] ++ [gI w 10] ++ [gZ w 16] ++ [gI w 10] ++ [gZ w 16]
def lsWires (w : Wp) (a : Nat) : List ((Nat → Int32) → va_E) := [gO 7 (ksWires a)] ++ lsNet w (a + 1) ++ lsService w (a + 8) ++ lsLog w (a + 16) ++ lsNet w (a + 24) ++ [gZ w 10]
def lsHistory (w : Wp) (a : Nat) : List ((Nat → Int32) → va_E) := [gO 0 (ksHistory a)] ++ [gR w 5] ++ lsWires w (a + 2 + 32 * 0) ++ lsWires w (a + 2 + 32 * 1) ++ lsWires w (a + 2 + 32 * 2) ++ lsWires w (a + 2 + 32 * 3) ++ lsWires w (a + 2 + 32 * 4)
def lsText (w : Wp) (a : Nat) : List ((Nat → Int32) → va_E) := [gO 6 (ksText a)] ++ [gI w 60]
def lsPlan (w : Wp) (a : Nat) : List ((Nat → Int32) → va_E) := [gO 3 (ksPlan a)] ++ [gI w 19] ++ [gI w 19]
def lsRehearsal (w : Wp) (a : Nat) : List ((Nat → Int32) → va_E) := [gO 4 (ksRehearsal a)] ++ lsWires w (a + 1)
def lsTramWires (w : Wp) (a : Nat) : List ((Nat → Int32) → va_E) := [gO 8 (ksTramWires a)] ++ lsWires w (a + 1) ++ lsHistory w (a + 33) ++ lsText w (a + 195) ++ lsPlan w (a + 197) ++ lsRehearsal w (a + 200)
def lsTramWiresModel (w : Wp) (a : Nat) : List ((Nat → Int32) → va_E) := [gO 9 (ksTramWiresModel a)] ++ [gI w 233] ++ [gI w 1165] ++ [gI w 233] ++ [gI w 60] ++ [gI w 19]
def lsAll (w : Wp) (a : Nat) : List ((Nat → Int32) → va_E) := lsTramWires w a ++ lsTramWiresModel w (a + 233)
def lyF (w : Wp) (X : Nat) : Ly := fun a => if a < X then none else (lsAll w X)[a - X]?
theorem ly_at (w : Wp) (X i : Nat) : lyF w X (X + i) = (lsAll w X)[i]? := by
  unfold lyF
  rw [if_neg (by omega), Nat.add_sub_cancel_left]
theorem ly_lt (w : Wp) (X : Nat) {a : Nat} (h : lyF w X a ≠ none) : X ≤ a ∧ a < X + 239 := by
  unfold lyF at h
  by_cases c : a < X
  · rw [if_pos c] at h; exact absurd rfl h
  · rw [if_neg c] at h
    refine ⟨by omega, ?_⟩
    rcases Nat.lt_or_ge (a - X) 239 with d | d
    · omega
    · rw [List.getElem?_eq_none (by show 239 ≤ _; exact d)] at h
      exact absurd rfl h
set_option maxRecDepth 100000 in
theorem lw_35 (w : Wp) (X : Nat) : LWires w (lyF w X) (X + 35) := ⟨(ly_at w X 35).trans rfl, ⟨(ly_at w X 36).trans rfl, (ly_at w X 37).trans rfl, (ly_at w X 38).trans rfl, (ly_at w X 39).trans rfl, (ly_at w X 40).trans rfl, (ly_at w X 41).trans rfl, (ly_at w X 42).trans rfl⟩, ⟨(ly_at w X 43).trans rfl, (ly_at w X 44).trans rfl, (ly_at w X 45).trans rfl, (ly_at w X 46).trans rfl, (ly_at w X 47).trans rfl, (ly_at w X 48).trans rfl, (ly_at w X 49).trans rfl, (ly_at w X 50).trans rfl⟩, ⟨(ly_at w X 51).trans rfl, (ly_at w X 52).trans rfl, (ly_at w X 53).trans rfl, (ly_at w X 54).trans rfl, (ly_at w X 55).trans rfl, (ly_at w X 56).trans rfl, (ly_at w X 57).trans rfl, (ly_at w X 58).trans rfl⟩, ⟨(ly_at w X 59).trans rfl, (ly_at w X 60).trans rfl, (ly_at w X 61).trans rfl, (ly_at w X 62).trans rfl, (ly_at w X 63).trans rfl, (ly_at w X 64).trans rfl, (ly_at w X 65).trans rfl⟩, (ly_at w X 66).trans rfl⟩
set_option maxRecDepth 100000 in
theorem lw_67 (w : Wp) (X : Nat) : LWires w (lyF w X) (X + 67) := ⟨(ly_at w X 67).trans rfl, ⟨(ly_at w X 68).trans rfl, (ly_at w X 69).trans rfl, (ly_at w X 70).trans rfl, (ly_at w X 71).trans rfl, (ly_at w X 72).trans rfl, (ly_at w X 73).trans rfl, (ly_at w X 74).trans rfl⟩, ⟨(ly_at w X 75).trans rfl, (ly_at w X 76).trans rfl, (ly_at w X 77).trans rfl, (ly_at w X 78).trans rfl, (ly_at w X 79).trans rfl, (ly_at w X 80).trans rfl, (ly_at w X 81).trans rfl, (ly_at w X 82).trans rfl⟩, ⟨(ly_at w X 83).trans rfl, (ly_at w X 84).trans rfl, (ly_at w X 85).trans rfl, (ly_at w X 86).trans rfl, (ly_at w X 87).trans rfl, (ly_at w X 88).trans rfl, (ly_at w X 89).trans rfl, (ly_at w X 90).trans rfl⟩, ⟨(ly_at w X 91).trans rfl, (ly_at w X 92).trans rfl, (ly_at w X 93).trans rfl, (ly_at w X 94).trans rfl, (ly_at w X 95).trans rfl, (ly_at w X 96).trans rfl, (ly_at w X 97).trans rfl⟩, (ly_at w X 98).trans rfl⟩
set_option maxRecDepth 100000 in
theorem lw_99 (w : Wp) (X : Nat) : LWires w (lyF w X) (X + 99) := ⟨(ly_at w X 99).trans rfl, ⟨(ly_at w X 100).trans rfl, (ly_at w X 101).trans rfl, (ly_at w X 102).trans rfl, (ly_at w X 103).trans rfl, (ly_at w X 104).trans rfl, (ly_at w X 105).trans rfl, (ly_at w X 106).trans rfl⟩, ⟨(ly_at w X 107).trans rfl, (ly_at w X 108).trans rfl, (ly_at w X 109).trans rfl, (ly_at w X 110).trans rfl, (ly_at w X 111).trans rfl, (ly_at w X 112).trans rfl, (ly_at w X 113).trans rfl, (ly_at w X 114).trans rfl⟩, ⟨(ly_at w X 115).trans rfl, (ly_at w X 116).trans rfl, (ly_at w X 117).trans rfl, (ly_at w X 118).trans rfl, (ly_at w X 119).trans rfl, (ly_at w X 120).trans rfl, (ly_at w X 121).trans rfl, (ly_at w X 122).trans rfl⟩, ⟨(ly_at w X 123).trans rfl, (ly_at w X 124).trans rfl, (ly_at w X 125).trans rfl, (ly_at w X 126).trans rfl, (ly_at w X 127).trans rfl, (ly_at w X 128).trans rfl, (ly_at w X 129).trans rfl⟩, (ly_at w X 130).trans rfl⟩
set_option maxRecDepth 100000 in
theorem lw_131 (w : Wp) (X : Nat) : LWires w (lyF w X) (X + 131) := ⟨(ly_at w X 131).trans rfl, ⟨(ly_at w X 132).trans rfl, (ly_at w X 133).trans rfl, (ly_at w X 134).trans rfl, (ly_at w X 135).trans rfl, (ly_at w X 136).trans rfl, (ly_at w X 137).trans rfl, (ly_at w X 138).trans rfl⟩, ⟨(ly_at w X 139).trans rfl, (ly_at w X 140).trans rfl, (ly_at w X 141).trans rfl, (ly_at w X 142).trans rfl, (ly_at w X 143).trans rfl, (ly_at w X 144).trans rfl, (ly_at w X 145).trans rfl, (ly_at w X 146).trans rfl⟩, ⟨(ly_at w X 147).trans rfl, (ly_at w X 148).trans rfl, (ly_at w X 149).trans rfl, (ly_at w X 150).trans rfl, (ly_at w X 151).trans rfl, (ly_at w X 152).trans rfl, (ly_at w X 153).trans rfl, (ly_at w X 154).trans rfl⟩, ⟨(ly_at w X 155).trans rfl, (ly_at w X 156).trans rfl, (ly_at w X 157).trans rfl, (ly_at w X 158).trans rfl, (ly_at w X 159).trans rfl, (ly_at w X 160).trans rfl, (ly_at w X 161).trans rfl⟩, (ly_at w X 162).trans rfl⟩
set_option maxRecDepth 100000 in
theorem lw_163 (w : Wp) (X : Nat) : LWires w (lyF w X) (X + 163) := ⟨(ly_at w X 163).trans rfl, ⟨(ly_at w X 164).trans rfl, (ly_at w X 165).trans rfl, (ly_at w X 166).trans rfl, (ly_at w X 167).trans rfl, (ly_at w X 168).trans rfl, (ly_at w X 169).trans rfl, (ly_at w X 170).trans rfl⟩, ⟨(ly_at w X 171).trans rfl, (ly_at w X 172).trans rfl, (ly_at w X 173).trans rfl, (ly_at w X 174).trans rfl, (ly_at w X 175).trans rfl, (ly_at w X 176).trans rfl, (ly_at w X 177).trans rfl, (ly_at w X 178).trans rfl⟩, ⟨(ly_at w X 179).trans rfl, (ly_at w X 180).trans rfl, (ly_at w X 181).trans rfl, (ly_at w X 182).trans rfl, (ly_at w X 183).trans rfl, (ly_at w X 184).trans rfl, (ly_at w X 185).trans rfl, (ly_at w X 186).trans rfl⟩, ⟨(ly_at w X 187).trans rfl, (ly_at w X 188).trans rfl, (ly_at w X 189).trans rfl, (ly_at w X 190).trans rfl, (ly_at w X 191).trans rfl, (ly_at w X 192).trans rfl, (ly_at w X 193).trans rfl⟩, (ly_at w X 194).trans rfl⟩
set_option maxRecDepth 100000 in
theorem ly_T (w : Wp) (X : Nat) (hB : w.2.2.2.2 = X + 35) : LTramWires w (lyF w X) X := ⟨(ly_at w X 0).trans rfl, ⟨(ly_at w X 1).trans rfl, ⟨(ly_at w X 2).trans rfl, (ly_at w X 3).trans rfl, (ly_at w X 4).trans rfl, (ly_at w X 5).trans rfl, (ly_at w X 6).trans rfl, (ly_at w X 7).trans rfl, (ly_at w X 8).trans rfl⟩, ⟨(ly_at w X 9).trans rfl, (ly_at w X 10).trans rfl, (ly_at w X 11).trans rfl, (ly_at w X 12).trans rfl, (ly_at w X 13).trans rfl, (ly_at w X 14).trans rfl, (ly_at w X 15).trans rfl, (ly_at w X 16).trans rfl⟩, ⟨(ly_at w X 17).trans rfl, (ly_at w X 18).trans rfl, (ly_at w X 19).trans rfl, (ly_at w X 20).trans rfl, (ly_at w X 21).trans rfl, (ly_at w X 22).trans rfl, (ly_at w X 23).trans rfl, (ly_at w X 24).trans rfl⟩, ⟨(ly_at w X 25).trans rfl, (ly_at w X 26).trans rfl, (ly_at w X 27).trans rfl, (ly_at w X 28).trans rfl, (ly_at w X 29).trans rfl, (ly_at w X 30).trans rfl, (ly_at w X 31).trans rfl⟩, (ly_at w X 32).trans rfl⟩, ⟨(ly_at w X 33).trans rfl, (ly_at w X 34).trans rfl, hB, (fun j hj => by
      match j, hj with
      | 0, _ => exact lw_35 w X
      | 1, _ => exact lw_67 w X
      | 2, _ => exact lw_99 w X
      | 3, _ => exact lw_131 w X
      | 4, _ => exact lw_163 w X
      | j + 5, h => omega)⟩, ⟨(ly_at w X 195).trans rfl, (ly_at w X 196).trans rfl⟩, ⟨(ly_at w X 197).trans rfl, (ly_at w X 198).trans rfl, (ly_at w X 199).trans rfl⟩, ⟨(ly_at w X 200).trans rfl, ⟨(ly_at w X 201).trans rfl, ⟨(ly_at w X 202).trans rfl, (ly_at w X 203).trans rfl, (ly_at w X 204).trans rfl, (ly_at w X 205).trans rfl, (ly_at w X 206).trans rfl, (ly_at w X 207).trans rfl, (ly_at w X 208).trans rfl⟩, ⟨(ly_at w X 209).trans rfl, (ly_at w X 210).trans rfl, (ly_at w X 211).trans rfl, (ly_at w X 212).trans rfl, (ly_at w X 213).trans rfl, (ly_at w X 214).trans rfl, (ly_at w X 215).trans rfl, (ly_at w X 216).trans rfl⟩, ⟨(ly_at w X 217).trans rfl, (ly_at w X 218).trans rfl, (ly_at w X 219).trans rfl, (ly_at w X 220).trans rfl, (ly_at w X 221).trans rfl, (ly_at w X 222).trans rfl, (ly_at w X 223).trans rfl, (ly_at w X 224).trans rfl⟩, ⟨(ly_at w X 225).trans rfl, (ly_at w X 226).trans rfl, (ly_at w X 227).trans rfl, (ly_at w X 228).trans rfl, (ly_at w X 229).trans rfl, (ly_at w X 230).trans rfl, (ly_at w X 231).trans rfl⟩, (ly_at w X 232).trans rfl⟩⟩⟩
set_option maxRecDepth 100000 in
theorem ly_M (w : Wp) (X : Nat) : LTramWiresModel w (lyF w X) (X + 233) := ⟨(ly_at w X 233).trans rfl, (ly_at w X 234).trans rfl, (ly_at w X 235).trans rfl, (ly_at w X 236).trans rfl, (ly_at w X 237).trans rfl, (ly_at w X 238).trans rfl⟩
def M00 (X : Nat) : Mm := fun a j => if j = 1 ∧ (a = X + 9 ∨ a = X + 43 ∨ a = X + 75 ∨ a = X + 107 ∨ a = X + 139 ∨ a = X + 171 ∨ a = X + 209) then nI 12 else if a = X + 34 then nI j else if a = X + 234 ∧ j = 2 then nI 12 else nI 0
theorem m00_0 {X a j : Nat} (h1 : ¬ (j = 1 ∧ (a = X + 9 ∨ a = X + 43 ∨ a = X + 75 ∨ a = X + 107 ∨ a = X + 139 ∨ a = X + 171 ∨ a = X + 209))) (h2 : a ≠ X + 34) (h3 : ¬ (a = X + 234 ∧ j = 2)) : M00 X a j = nI 0 := by
  unfold M00
  rw [if_neg h1, if_neg h2, if_neg h3]
theorem m00_b {X a : Nat} (h : a = X + 9 ∨ a = X + 43 ∨ a = X + 75 ∨ a = X + 107 ∨ a = X + 139 ∨ a = X + 171 ∨ a = X + 209) : M00 X a 1 = nI 12 := by
  unfold M00
  rw [if_pos ⟨rfl, h⟩]
theorem m00_s (X t : Nat) : M00 X (X + 34) t = nI t := by
  unfold M00
  rw [if_neg (by omega), if_pos rfl]
theorem m00_2 (X : Nat) : M00 X (X + 234) 2 = nI 12 := by
  unfold M00
  rw [if_neg (by omega), if_neg (by omega), if_pos ⟨rfl, rfl⟩]
theorem q_00 (X : Nat) : Q (M00 X) X (X + 233) :=
  q_start (fun b j h1 h2 h3 => m00_0 (by omega) (by omega) (by omega)) (m00_b (by omega)) (fun j hj => m00_0 (by omega) (by omega) (by omega)) (m00_2 X) (m00_0 (by omega) (by omega) (by omega)) (fun t _ => m00_s X t) (m00_0 (by omega) (by omega) (by omega)) (fun j => m00_0 (by omega) (by omega) (by omega))
theorem c_X8 (l : Launch) (w : Wp) (X : Nat) (hB : w.2.2.2.2 = X + 35) : CN l w (lyF w X) (M00 X) yX8_init cX8_init 1 4 8 [.null, .null, .null, .null, .null] 233 2917 X :=
  k_X8 (ly_T w X hB) (fun i j h1 h2 h3 => m00_0 (by omega) (by omega) (by omega)) (fun t _ => m00_s X t) (fun i h => m00_b (by omega))
theorem c_X9 (l : Launch) (w : Wp) (X : Nat) : CN l w (lyF w X) (M00 X) yX9_init cX9_init 1 1 9 [.null, .null, .null, .int 0, .null, .int 0, .null, .int 0, .int 0, .int 0, .int 0, .int 0, .int 0] 6 1710 (X + 233) :=
  k_X9 (ly_M w X) (fun i j h1 h2 => m00_0 (by omega) (by omega) (by omega)) (m00_2 X)
