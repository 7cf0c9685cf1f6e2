def ksNet (a : Nat) : List (Option Nat) := [none, none, some (a + 1), some (a + 2), some (a + 3), some (a + 4), some (a + 5), some (a + 6)]
def LNet (w : Wp) (L : Ly) (a : Nat) : Prop := L a = some (gO 2 (ksNet a)) ∧ L (a + 1) = some (gI w 10) ∧ L (a + 2) = some (gI w 16) ∧ L (a + 3) = some (gI w 16) ∧ L (a + 4) = some (gZ w 16) ∧ L (a + 5) = some (gI w 10) ∧ L (a + 6) = some (gZ w 10)
theorem LNet_o {w : Wp} {L : Ly} {a : Nat} (h : LNet w L a) : L a = some (gO 2 (ksNet a)) := h.1
theorem LNet_feeder {w : Wp} {L : Ly} {a : Nat} (h : LNet w L a) : L (a + 1) = some (gI w 10) := h.2.1
theorem LNet_one {w : Wp} {L : Ly} {a : Nat} (h : LNet w L a) : L (a + 2) = some (gI w 16) := h.2.2.1
theorem LNet_other {w : Wp} {L : Ly} {a : Nat} (h : LNet w L a) : L (a + 3) = some (gI w 16) := h.2.2.2.1
theorem LNet_closed {w : Wp} {L : Ly} {a : Nat} (h : LNet w L a) : L (a + 4) = some (gZ w 16) := h.2.2.2.2.1
theorem LNet_lowest {w : Wp} {L : Ly} {a : Nat} (h : LNet w L a) : L (a + 5) = some (gI w 10) := h.2.2.2.2.2.1
theorem LNet_live {w : Wp} {L : Ly} {a : Nat} (h : LNet w L a) : L (a + 6) = some (gZ w 10) := h.2.2.2.2.2.2
def ksService (a : Nat) : List (Option Nat) := [none, none, none, some (a + 1), some (a + 2), some (a + 3), some (a + 4), some (a + 5), some (a + 6), some (a + 7)]
def LService (w : Wp) (L : Ly) (a : Nat) : Prop := L a = some (gO 5 (ksService a)) ∧ L (a + 1) = some (gI w 10) ∧ L (a + 2) = some (gZ w 10) ∧ L (a + 3) = some (gZ w 10) ∧ L (a + 4) = some (gZ w 10) ∧ L (a + 5) = some (gI w 10) ∧ L (a + 6) = some (gI w 10) ∧ L (a + 7) = some (gI w 10)
theorem LService_o {w : Wp} {L : Ly} {a : Nat} (h : LService w L a) : L a = some (gO 5 (ksService a)) := h.1
theorem LService_needed {w : Wp} {L : Ly} {a : Nat} (h : LService w L a) : L (a + 1) = some (gI w 10) := h.2.1
theorem LService_bridged {w : Wp} {L : Ly} {a : Nat} (h : LService w L a) : L (a + 2) = some (gZ w 10) := h.2.2.1
theorem LService_earthed {w : Wp} {L : Ly} {a : Nat} (h : LService w L a) : L (a + 3) = some (gZ w 10) := h.2.2.2.1
theorem LService_gang {w : Wp} {L : Ly} {a : Nat} (h : LService w L a) : L (a + 4) = some (gZ w 10) := h.2.2.2.2.1
theorem LService_brought {w : Wp} {L : Ly} {a : Nat} (h : LService w L a) : L (a + 5) = some (gI w 10) := h.2.2.2.2.2.1
theorem LService_until {w : Wp} {L : Ly} {a : Nat} (h : LService w L a) : L (a + 6) = some (gI w 10) := h.2.2.2.2.2.2.1
theorem LService_tools {w : Wp} {L : Ly} {a : Nat} (h : LService w L a) : L (a + 7) = some (gI w 10) := h.2.2.2.2.2.2.2
def ksLog (a : Nat) : List (Option Nat) := [none, none, some (a + 1), some (a + 2), some (a + 3), some (a + 4), some (a + 5), some (a + 6), some (a + 7)]
def LLog (w : Wp) (L : Ly) (a : Nat) : Prop := L a = some (gO 1 (ksLog a)) ∧ L (a + 1) = some (gI w 24) ∧ L (a + 2) = some (gI w 24) ∧ L (a + 3) = some (gI w 24) ∧ L (a + 4) = some (gI w 10) ∧ L (a + 5) = some (gZ w 16) ∧ L (a + 6) = some (gI w 10) ∧ L (a + 7) = some (gZ w 16)
theorem LLog_o {w : Wp} {L : Ly} {a : Nat} (h : LLog w L a) : L a = some (gO 1 (ksLog a)) := h.1
theorem LLog_kinds {w : Wp} {L : Ly} {a : Nat} (h : LLog w L a) : L (a + 1) = some (gI w 24) := h.2.1
theorem LLog_places {w : Wp} {L : Ly} {a : Nat} (h : LLog w L a) : L (a + 2) = some (gI w 24) := h.2.2.1
theorem LLog_times {w : Wp} {L : Ly} {a : Nat} (h : LLog w L a) : L (a + 3) = some (gI w 24) := h.2.2.2.1
theorem LLog_feederAhead {w : Wp} {L : Ly} {a : Nat} (h : LLog w L a) : L (a + 4) = some (gI w 10) := h.2.2.2.2.1
theorem LLog_closedAhead {w : Wp} {L : Ly} {a : Nat} (h : LLog w L a) : L (a + 5) = some (gZ w 16) := h.2.2.2.2.2.1
theorem LLog_feederTold {w : Wp} {L : Ly} {a : Nat} (h : LLog w L a) : L (a + 6) = some (gI w 10) := h.2.2.2.2.2.2.1
theorem LLog_closedTold {w : Wp} {L : Ly} {a : Nat} (h : LLog w L a) : L (a + 7) = some (gZ w 16) := h.2.2.2.2.2.2.2
def ksWires (a : Nat) : List (Option Nat) := [some (a + 1), some (a + 8), some (a + 16), some (a + 24), some (a + 31)]
def LWires (w : Wp) (L : Ly) (a : Nat) : Prop := L a = some (gO 7 (ksWires a)) ∧ LNet w L (a + 1) ∧ LService w L (a + 8) ∧ LLog w L (a + 16) ∧ LNet w L (a + 24) ∧ L (a + 31) = some (gZ w 10)
theorem LWires_o {w : Wp} {L : Ly} {a : Nat} (h : LWires w L a) : L a = some (gO 7 (ksWires a)) := h.1
theorem LWires_net {w : Wp} {L : Ly} {a : Nat} (h : LWires w L a) : LNet w L (a + 1) := h.2.1
theorem LWires_service {w : Wp} {L : Ly} {a : Nat} (h : LWires w L a) : LService w L (a + 8) := h.2.2.1
theorem LWires_log {w : Wp} {L : Ly} {a : Nat} (h : LWires w L a) : LLog w L (a + 16) := h.2.2.2.1
theorem LWires_supposed {w : Wp} {L : Ly} {a : Nat} (h : LWires w L a) : LNet w L (a + 24) := h.2.2.2.2.1
theorem LWires_reached {w : Wp} {L : Ly} {a : Nat} (h : LWires w L a) : L (a + 31) = some (gZ w 10) := h.2.2.2.2.2
def ksHistory (a : Nat) : List (Option Nat) := [none, some (a + 1)]
def LHistory (w : Wp) (L : Ly) (a : Nat) : Prop := L a = some (gO 0 (ksHistory a)) ∧ L (a + 1) = some (gR w 5) ∧ w.2.2.2.2 = a + 2 ∧ ∀ j : Nat, j < 5 → LWires w L (a + 2 + 32 * j)
theorem LHistory_o {w : Wp} {L : Ly} {a : Nat} (h : LHistory w L a) : L a = some (gO 0 (ksHistory a)) := h.1
theorem LHistory_states {w : Wp} {L : Ly} {a : Nat} (h : LHistory w L a) : L (a + 1) = some (gR w 5) := h.2.1
theorem LHistory_b {w : Wp} {L : Ly} {a : Nat} (h : LHistory w L a) : w.2.2.2.2 = a + 2 := h.2.2.1
theorem LHistory_w {w : Wp} {L : Ly} {a : Nat} (h : LHistory w L a) : ∀ j : Nat, j < 5 → LWires w L (a + 2 + 32 * j) := h.2.2.2
def ksText (a : Nat) : List (Option Nat) := [none, some (a + 1), none, none, none]
def LText (w : Wp) (L : Ly) (a : Nat) : Prop := L a = some (gO 6 (ksText a)) ∧ L (a + 1) = some (gI w 60)
theorem LText_o {w : Wp} {L : Ly} {a : Nat} (h : LText w L a) : L a = some (gO 6 (ksText a)) := h.1
theorem LText_characters {w : Wp} {L : Ly} {a : Nat} (h : LText w L a) : L (a + 1) = some (gI w 60) := h.2
def ksPlan (a : Nat) : List (Option Nat) := [none, some (a + 1), some (a + 2)]
def LPlan (w : Wp) (L : Ly) (a : Nat) : Prop := L a = some (gO 3 (ksPlan a)) ∧ L (a + 1) = some (gI w 19) ∧ L (a + 2) = some (gI w 19)
theorem LPlan_o {w : Wp} {L : Ly} {a : Nat} (h : LPlan w L a) : L a = some (gO 3 (ksPlan a)) := h.1
theorem LPlan_kinds {w : Wp} {L : Ly} {a : Nat} (h : LPlan w L a) : L (a + 1) = some (gI w 19) := h.2.1
theorem LPlan_places {w : Wp} {L : Ly} {a : Nat} (h : LPlan w L a) : L (a + 2) = some (gI w 19) := h.2.2
def ksRehearsal (a : Nat) : List (Option Nat) := [some (a + 1), none, none, none]
def LRehearsal (w : Wp) (L : Ly) (a : Nat) : Prop := L a = some (gO 4 (ksRehearsal a)) ∧ LWires w L (a + 1)
theorem LRehearsal_o {w : Wp} {L : Ly} {a : Nat} (h : LRehearsal w L a) : L a = some (gO 4 (ksRehearsal a)) := h.1
theorem LRehearsal_wires {w : Wp} {L : Ly} {a : Nat} (h : LRehearsal w L a) : LWires w L (a + 1) := h.2
def ksTramWires (a : Nat) : List (Option Nat) := [some (a + 1), some (a + 33), some (a + 195), some (a + 197), some (a + 200)]
def LTramWires (w : Wp) (L : Ly) (a : Nat) : Prop := L a = some (gO 8 (ksTramWires a)) ∧ LWires w L (a + 1) ∧ LHistory w L (a + 33) ∧ LText w L (a + 195) ∧ LPlan w L (a + 197) ∧ LRehearsal w L (a + 200)
theorem LTramWires_o {w : Wp} {L : Ly} {a : Nat} (h : LTramWires w L a) : L a = some (gO 8 (ksTramWires a)) := h.1
theorem LTramWires_now {w : Wp} {L : Ly} {a : Nat} (h : LTramWires w L a) : LWires w L (a + 1) := h.2.1
theorem LTramWires_history {w : Wp} {L : Ly} {a : Nat} (h : LTramWires w L a) : LHistory w L (a + 33) := h.2.2.1
theorem LTramWires_text {w : Wp} {L : Ly} {a : Nat} (h : LTramWires w L a) : LText w L (a + 195) := h.2.2.2.1
theorem LTramWires_outPlan {w : Wp} {L : Ly} {a : Nat} (h : LTramWires w L a) : LPlan w L (a + 197) := h.2.2.2.2.1
theorem LTramWires_rehearsal {w : Wp} {L : Ly} {a : Nat} (h : LTramWires w L a) : LRehearsal w L (a + 200) := h.2.2.2.2.2
