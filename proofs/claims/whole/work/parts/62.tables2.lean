/-! what the tables say of makers, throwers and catchers: by program -/
theorem ac_int : Cond.arrayClass .int ∈ WS := (WS_in 109 (by decide +kernel) rfl)
theorem ac_long : Cond.arrayClass .long ∈ WS := (WS_in 156 (by decide +kernel) rfl)
theorem oi_RX5_1 : OI RX5 1 := ⟨(WS_in 63 (by decide +kernel) rfl), (WS_in 64 (by decide +kernel) rfl), (WS_in 65 (by decide +kernel) rfl)⟩
theorem oi_RX1_3 : OI RX1 3 := ⟨(WS_in 71 (by decide +kernel) rfl), (WS_in 64 (by decide +kernel) rfl), (WS_in 65 (by decide +kernel) rfl)⟩
theorem oi_RX2_3 : OI RX2 3 := ⟨(WS_in 115 (by decide +kernel) rfl), (WS_in 64 (by decide +kernel) rfl), (WS_in 65 (by decide +kernel) rfl)⟩
theorem oi_RX3_3 : OI RX3 3 := ⟨(WS_in 135 (by decide +kernel) rfl), (WS_in 64 (by decide +kernel) rfl), (WS_in 65 (by decide +kernel) rfl)⟩
theorem oi_RX4_3 : OI RX4 3 := ⟨(WS_in 162 (by decide +kernel) rfl), (WS_in 64 (by decide +kernel) rfl), (WS_in 65 (by decide +kernel) rfl)⟩
theorem oi_RX6_1 : OI RX6 1 := ⟨(WS_in 712 (by decide +kernel) rfl), (WS_in 64 (by decide +kernel) rfl), (WS_in 65 (by decide +kernel) rfl)⟩
theorem cl_RL_8 : Cond.classLink RL 8 "FoldedKeys" ∈ WS := (WS_in 58 (by decide +kernel) rfl)
theorem nw_RL_8 : NW RL 8 4 [.null, .null, .null, .null, .null] := ⟨RX5, TX5, 5, tyX5, rfl, rfl, uw_4, tyX5_ok, fun j hj => (match j, hj with | 0, _ => rfl | 1, _ => rfl | 2, _ => rfl | 3, _ => rfl | 4, _ => rfl), cl_RL_8, (WS_in 59 (by decide +kernel) rfl), (WS_in 43 (by decide +kernel) rfl)⟩
theorem cl_RX5_7 : Cond.classLink RX5 7 "FoldedKeys$Corridor" ∈ WS := (WS_in 66 (by decide +kernel) rfl)
theorem nw_RX5_7 : NW RX5 7 0 [.null, .null, .int 0, .int 0, .int 0, .int 0, .int 0, .int 0, .int 0] := ⟨RX1, TX1, 9, tyX1, rfl, rfl, uw_0, tyX1_ok, fun j hj => (match j, hj with | 0, _ => rfl | 1, _ => rfl | 2, _ => rfl | 3, _ => rfl | 4, _ => rfl | 5, _ => rfl | 6, _ => rfl | 7, _ => rfl | 8, _ => rfl), cl_RX5_7, (WS_in 67 (by decide +kernel) rfl), (WS_in 44 (by decide +kernel) rfl)⟩
theorem cl_RX5_19 : Cond.classLink RX5 19 "FoldedKeys$Saves" ∈ WS := (WS_in 110 (by decide +kernel) rfl)
theorem nw_RX5_19 : NW RX5 19 1 [.null, .int 0, .int 0] := ⟨RX2, TX2, 3, tyX2, rfl, rfl, uw_1, tyX2_ok, fun j hj => (match j, hj with | 0, _ => rfl | 1, _ => rfl | 2, _ => rfl), cl_RX5_19, (WS_in 111 (by decide +kernel) rfl), (WS_in 46 (by decide +kernel) rfl)⟩
theorem cl_RX2_9 : Cond.classLink RX2 9 "FoldedKeys$Corridor" ∈ WS := (WS_in 116 (by decide +kernel) rfl)
theorem nw_RX2_9 : NW RX2 9 0 [.null, .null, .int 0, .int 0, .int 0, .int 0, .int 0, .int 0, .int 0] := ⟨RX1, TX1, 9, tyX1, rfl, rfl, uw_0, tyX1_ok, fun j hj => (match j, hj with | 0, _ => rfl | 1, _ => rfl | 2, _ => rfl | 3, _ => rfl | 4, _ => rfl | 5, _ => rfl | 6, _ => rfl | 7, _ => rfl | 8, _ => rfl), cl_RX2_9, (WS_in 67 (by decide +kernel) rfl), (WS_in 44 (by decide +kernel) rfl)⟩
theorem cl_RX5_26 : Cond.classLink RX5 26 "FoldedKeys$Search" ∈ WS := (WS_in 130 (by decide +kernel) rfl)
theorem nw_RX5_26 : NW RX5 26 2 [.null, .null, .null, .null, .int 0, .int 0] := ⟨RX3, TX3, 6, tyX3, rfl, rfl, uw_2, tyX3_ok, fun j hj => (match j, hj with | 0, _ => rfl | 1, _ => rfl | 2, _ => rfl | 3, _ => rfl | 4, _ => rfl | 5, _ => rfl), cl_RX5_26, (WS_in 131 (by decide +kernel) rfl), (WS_in 47 (by decide +kernel) rfl)⟩
theorem cl_RX5_33 : Cond.classLink RX5 33 "FoldedKeys$Text" ∈ WS := (WS_in 157 (by decide +kernel) rfl)
theorem nw_RX5_33 : NW RX5 33 3 [.null, .int 0, .int 0, .int 0] := ⟨RX4, TX4, 4, tyX4, rfl, rfl, uw_3, tyX4_ok, fun j hj => (match j, hj with | 0, _ => rfl | 1, _ => rfl | 2, _ => rfl | 3, _ => rfl), cl_RX5_33, (WS_in 158 (by decide +kernel) rfl), (WS_in 48 (by decide +kernel) rfl)⟩
theorem cl_RL_13 : Cond.classLink RL 13 "java/lang/IndexOutOfBoundsException" ∈ WS := (WS_in 441 (by decide +kernel) rfl)
theorem cl_RL_15 : Cond.classLink RL 15 "java/lang/IllegalArgumentException" ∈ WS := (WS_in 442 (by decide +kernel) rfl)
theorem cl_RX5_44 : Cond.classLink RX5 44 "java/lang/IndexOutOfBoundsException" ∈ WS := (WS_in 448 (by decide +kernel) rfl)
set_option maxRecDepth 100000 in
theorem tf_44 : TF RX5 44 48 xIO := ⟨["java/lang/RuntimeException", "java/lang/Exception"], Nat.le_of_ble_eq_true rfl, by decide +kernel, by decide +kernel, cl_RX5_44, (WS_in 53 (by decide +kernel) rfl), fun w h => ⟨(by decide +kernel : ∀ w ∈ (vx_atS RX5 48 xIO ["java/lang/RuntimeException", "java/lang/Exception"]), w ∈ lw_tbl) w h, (List.all_eq_true.mp (by decide +kernel : (vx_atS RX5 48 xIO ["java/lang/RuntimeException", "java/lang/Exception"]).all (fun w => goodWord w || isCD w) = true) w h)⟩⟩
theorem cl_RX5_54 : Cond.classLink RX5 54 "java/lang/IllegalArgumentException" ∈ WS := (WS_in 519 (by decide +kernel) rfl)
set_option maxRecDepth 100000 in
theorem tf_54 : TF RX5 54 58 xIA := ⟨["java/lang/RuntimeException", "java/lang/Exception"], Nat.le_of_ble_eq_true rfl, by decide +kernel, by decide +kernel, cl_RX5_54, (WS_in 54 (by decide +kernel) rfl), fun w h => ⟨(by decide +kernel : ∀ w ∈ (vx_atS RX5 58 xIA ["java/lang/RuntimeException", "java/lang/Exception"]), w ∈ lw_tbl) w h, (List.all_eq_true.mp (by decide +kernel : (vx_atS RX5 58 xIA ["java/lang/RuntimeException", "java/lang/Exception"]).all (fun w => goodWord w || isCD w) = true) w h)⟩⟩
theorem cl_RL_20 : Cond.classLink RL 20 "java/lang/IllegalStateException" ∈ WS := (WS_in 550 (by decide +kernel) rfl)
theorem cl_RX5_90 : Cond.classLink RX5 90 "java/lang/IllegalStateException" ∈ WS := (WS_in 558 (by decide +kernel) rfl)
set_option maxRecDepth 100000 in
theorem tf_90 : TF RX5 90 94 xIS := ⟨["java/lang/RuntimeException", "java/lang/Exception"], Nat.le_of_ble_eq_true rfl, by decide +kernel, by decide +kernel, cl_RX5_90, (WS_in 56 (by decide +kernel) rfl), fun w h => ⟨(by decide +kernel : ∀ w ∈ (vx_atS RX5 94 xIS ["java/lang/RuntimeException", "java/lang/Exception"]), w ∈ lw_tbl) w h, (List.all_eq_true.mp (by decide +kernel : (vx_atS RX5 94 xIS ["java/lang/RuntimeException", "java/lang/Exception"]).all (fun w => goodWord w || isCD w) = true) w h)⟩⟩
theorem cl_RL_71 : Cond.classLink RL 71 "FoldedKeysModel" ∈ WS := (WS_in 707 (by decide +kernel) rfl)
theorem nw_RL_71 : NW RL 71 5 [.null, .null, .null, .int 0, .null, .int 0, .int 0, .int 0, .int 0, .null, .null, .null, .null, .null, .null, .int 0, .int 0, .int 0] := ⟨RX6, TX6, 18, tyX6, rfl, rfl, uw_5, tyX6_ok, fun j hj => (by
  have h9 : j = 0 ∨ j = 1 ∨ j = 2 ∨ j = 3 ∨ j = 4 ∨ j = 5 ∨ j = 6 ∨ j = 7 ∨ j = 8 ∨ j = 9 ∨ j = 10 ∨ j = 11 ∨ j = 12 ∨ j = 13 ∨ j = 14 ∨ j = 15 ∨ j = 16 ∨ j = 17 := by omega
  rcases h9 with rfl | rfl | rfl | rfl | rfl | rfl | rfl | rfl | rfl | rfl | rfl | rfl | rfl | rfl | rfl | rfl | rfl | rfl
  all_goals rfl), cl_RL_71, (WS_in 708 (by decide +kernel) rfl), (WS_in 49 (by decide +kernel) rfl)⟩
theorem sr_46 : Cond.stringRef RX5 46 "no such place for a door" ∈ tables_1 := List.mem_of_getElem? (i := 447) (by decide +kernel)
theorem sr_56 : Cond.stringRef RX5 56 "lock is not 0 to 5" ∈ tables_1 := List.mem_of_getElem? (i := 486) (by decide +kernel)
theorem sr_74 : Cond.stringRef RX5 74 "no such cell" ∈ tables_1 := List.mem_of_getElem? (i := 514) (by decide +kernel)
theorem sr_76 : Cond.stringRef RX5 76 "bow is not 0 to 5" ∈ tables_1 := List.mem_of_getElem? (i := 515) (by decide +kernel)
theorem sr_92 : Cond.stringRef RX5 92 "there would be more than 2 keys" ∈ tables_1 := List.mem_of_getElem? (i := 525) (by decide +kernel)
theorem sr_104 : Cond.stringRef RX5 104 "length is not 2 to 8" ∈ tables_1 := List.mem_of_getElem? (i := 547) (by decide +kernel)
theorem sr_120 : Cond.stringRef RX5 120 "step is not 0 to 4" ∈ tables_1 := List.mem_of_getElem? (i := 566) (by decide +kernel)
theorem sr_125 : Cond.stringRef RX5 125 "the step is refused" ∈ tables_1 := List.mem_of_getElem? (i := 567) (by decide +kernel)
theorem sr_137 : Cond.stringRef RX5 137 "there is no plan to the cell" ∈ tables_1 := List.mem_of_getElem? (i := 579) (by decide +kernel)
theorem sr_142 : Cond.stringRef RX5 142 "code is not 33 to 126" ∈ tables_1 := List.mem_of_getElem? (i := 587) (by decide +kernel)
theorem sr_145 : Cond.stringRef RX5 145 "the buffer is full" ∈ tables_1 := List.mem_of_getElem? (i := 588) (by decide +kernel)
theorem sr_156 : Cond.stringRef RX5 156 "the buffer is no complete corridor" ∈ tables_1 := List.mem_of_getElem? (i := 600) (by decide +kernel)
theorem sr_164 : Cond.stringRef RX5 164 "there is no saved state" ∈ tables_1 := List.mem_of_getElem? (i := 608) (by decide +kernel)
theorem sr_169 : Cond.stringRef RX5 169 "what is not 0 to 6" ∈ tables_1 := List.mem_of_getElem? (i := 620) (by decide +kernel)
theorem sr_174 : Cond.stringRef RX5 174 "what is not 0 to 4" ∈ tables_1 := List.mem_of_getElem? (i := 628) (by decide +kernel)
theorem sr_179 : Cond.stringRef RX5 179 "place is below 0" ∈ tables_1 := List.mem_of_getElem? (i := 636) (by decide +kernel)
def hh_L_door : List (Nat × Nat × Nat × Nat) := [(0, 10, 13, 13), (0, 10, 17, 15)]
theorem mw_L_door : MFW yL_door cL_door 5 (some .int) hh_L_door 4 := ⟨(WS_in 440 (by decide +kernel) rfl), (WS_in 42 (by decide +kernel) rfl), by decide +kernel, by decide +kernel, by decide +kernel⟩
theorem ms_L_door : Cond.static yL_door ∈ WS := (WS_in 439 (by decide +kernel) rfl)
theorem hd_L_door_xIO : HD RL hh_L_door 5 xIO 13 := ⟨[], ⟨0, 10, 13, 13⟩, [⟨0, 10, 17, 15⟩], xIO, rfl, rfl, by decide, by decide, cl_RL_13, (List.mem_of_getElem? (i := 450) (by decide +kernel)), fun z hz => absurd hz List.not_mem_nil⟩
theorem hd_L_door_xIA : HD RL hh_L_door 5 xIA 17 := ⟨[⟨0, 10, 13, 13⟩], ⟨0, 10, 17, 15⟩, [], xIA, rfl, rfl, by decide, by decide, cl_RL_15, (List.mem_of_getElem? (i := 521) (by decide +kernel)), fun z hz => by
  rcases hz with _ | ⟨_, hz⟩
  · exact ⟨(by decide), xIO, cl_RL_13, fun U h => h.1⟩
  · cases hz⟩
def hh_L_key : List (Nat × Nat × Nat × Nat) := [(0, 10, 13, 13), (0, 10, 17, 15), (0, 10, 21, 20)]
theorem mw_L_key : MFW yL_key cL_key 5 (some .int) hh_L_key 4 := ⟨(WS_in 549 (by decide +kernel) rfl), (WS_in 42 (by decide +kernel) rfl), by decide +kernel, by decide +kernel, by decide +kernel⟩
theorem ms_L_key : Cond.static yL_key ∈ WS := (WS_in 548 (by decide +kernel) rfl)
theorem hd_L_key_xIO : HD RL hh_L_key 5 xIO 13 := ⟨[], ⟨0, 10, 13, 13⟩, [⟨0, 10, 17, 15⟩, ⟨0, 10, 21, 20⟩], xIO, rfl, rfl, by decide, by decide, cl_RL_13, (List.mem_of_getElem? (i := 450) (by decide +kernel)), fun z hz => absurd hz List.not_mem_nil⟩
theorem hd_L_key_xIA : HD RL hh_L_key 5 xIA 17 := ⟨[⟨0, 10, 13, 13⟩], ⟨0, 10, 17, 15⟩, [⟨0, 10, 21, 20⟩], xIA, rfl, rfl, by decide, by decide, cl_RL_15, (List.mem_of_getElem? (i := 521) (by decide +kernel)), fun z hz => by
  rcases hz with _ | ⟨_, hz⟩
  · exact ⟨(by decide), xIO, cl_RL_13, fun U h => h.1⟩
  · cases hz⟩
theorem hd_L_key_xIS : HD RL hh_L_key 5 xIS 21 := ⟨[⟨0, 10, 13, 13⟩, ⟨0, 10, 17, 15⟩], ⟨0, 10, 21, 20⟩, [], xIS, rfl, rfl, by decide, by decide, cl_RL_20, (List.mem_of_getElem? (i := 560) (by decide +kernel)), fun z hz => by
  rcases hz with _ | ⟨_, hz⟩
  · exact ⟨(by decide), xIO, cl_RL_13, fun U h => h.2.1⟩
  rcases hz with _ | ⟨_, hz⟩
  · exact ⟨(by decide), xIA, cl_RL_15, fun U h => h.2.2⟩
  · cases hz⟩
def hh_L_ladder : List (Nat × Nat × Nat × Nat) := [(0, 10, 13, 13)]
theorem mw_L_ladder : MFW yL_ladder cL_ladder 5 (some .int) hh_L_ladder 4 := ⟨(WS_in 576 (by decide +kernel) rfl), (WS_in 42 (by decide +kernel) rfl), by decide +kernel, by decide +kernel, by decide +kernel⟩
theorem ms_L_ladder : Cond.static yL_ladder ∈ WS := (WS_in 575 (by decide +kernel) rfl)
theorem hd_L_ladder_xIO : HD RL hh_L_ladder 5 xIO 13 := ⟨[], ⟨0, 10, 13, 13⟩, [], xIO, rfl, rfl, by decide, by decide, cl_RL_13, (List.mem_of_getElem? (i := 450) (by decide +kernel)), fun z hz => absurd hz List.not_mem_nil⟩
def hh_L_fold : List (Nat × Nat × Nat × Nat) := [(0, 9, 12, 15)]
theorem mw_L_fold : MFW yL_fold cL_fold 4 (some .int) hh_L_fold 3 := ⟨(WS_in 584 (by decide +kernel) rfl), (WS_in 42 (by decide +kernel) rfl), by decide +kernel, by decide +kernel, by decide +kernel⟩
theorem ms_L_fold : Cond.static yL_fold ∈ WS := (WS_in 583 (by decide +kernel) rfl)
theorem hd_L_fold_xIA : HD RL hh_L_fold 4 xIA 12 := ⟨[], ⟨0, 9, 12, 15⟩, [], xIA, rfl, rfl, by decide, by decide, cl_RL_15, (List.mem_of_getElem? (i := 521) (by decide +kernel)), fun z hz => absurd hz List.not_mem_nil⟩
def hh_L_stand : List (Nat × Nat × Nat × Nat) := [(0, 9, 12, 13)]
theorem mw_L_stand : MFW yL_stand cL_stand 4 (some .int) hh_L_stand 3 := ⟨(WS_in 592 (by decide +kernel) rfl), (WS_in 42 (by decide +kernel) rfl), by decide +kernel, by decide +kernel, by decide +kernel⟩
theorem ms_L_stand : Cond.static yL_stand ∈ WS := (WS_in 591 (by decide +kernel) rfl)
theorem hd_L_stand_xIO : HD RL hh_L_stand 4 xIO 12 := ⟨[], ⟨0, 9, 12, 13⟩, [], xIO, rfl, rfl, by decide, by decide, cl_RL_13, (List.mem_of_getElem? (i := 450) (by decide +kernel)), fun z hz => absurd hz List.not_mem_nil⟩
def hh_L_step : List (Nat × Nat × Nat × Nat) := [(0, 9, 12, 15), (0, 9, 15, 20)]
theorem mw_L_step : MFW yL_step cL_step 4 (some .int) hh_L_step 3 := ⟨(WS_in 600 (by decide +kernel) rfl), (WS_in 42 (by decide +kernel) rfl), by decide +kernel, by decide +kernel, by decide +kernel⟩
theorem ms_L_step : Cond.static yL_step ∈ WS := (WS_in 599 (by decide +kernel) rfl)
theorem hd_L_step_xIA : HD RL hh_L_step 4 xIA 12 := ⟨[], ⟨0, 9, 12, 15⟩, [⟨0, 9, 15, 20⟩], xIA, rfl, rfl, by decide, by decide, cl_RL_15, (List.mem_of_getElem? (i := 521) (by decide +kernel)), fun z hz => absurd hz List.not_mem_nil⟩
theorem hd_L_step_xIS : HD RL hh_L_step 4 xIS 15 := ⟨[⟨0, 9, 12, 15⟩], ⟨0, 9, 15, 20⟩, [], xIS, rfl, rfl, by decide, by decide, cl_RL_20, (List.mem_of_getElem? (i := 560) (by decide +kernel)), fun z hz => by
  rcases hz with _ | ⟨_, hz⟩
  · exact ⟨(by decide), xIA, cl_RL_15, fun U h => h.2.2⟩
  · cases hz⟩
def hh_L_walk : List (Nat × Nat × Nat × Nat) := [(0, 9, 12, 13), (0, 9, 15, 20)]
theorem mw_L_walk : MFW yL_walk cL_walk 4 (some .int) hh_L_walk 3 := ⟨(WS_in 616 (by decide +kernel) rfl), (WS_in 42 (by decide +kernel) rfl), by decide +kernel, by decide +kernel, by decide +kernel⟩
theorem ms_L_walk : Cond.static yL_walk ∈ WS := (WS_in 615 (by decide +kernel) rfl)
theorem hd_L_walk_xIO : HD RL hh_L_walk 4 xIO 12 := ⟨[], ⟨0, 9, 12, 13⟩, [⟨0, 9, 15, 20⟩], xIO, rfl, rfl, by decide, by decide, cl_RL_13, (List.mem_of_getElem? (i := 450) (by decide +kernel)), fun z hz => absurd hz List.not_mem_nil⟩
theorem hd_L_walk_xIS : HD RL hh_L_walk 4 xIS 15 := ⟨[⟨0, 9, 12, 13⟩], ⟨0, 9, 15, 20⟩, [], xIS, rfl, rfl, by decide, by decide, cl_RL_20, (List.mem_of_getElem? (i := 560) (by decide +kernel)), fun z hz => by
  rcases hz with _ | ⟨_, hz⟩
  · exact ⟨(by decide), xIO, cl_RL_13, fun U h => h.2.1⟩
  · cases hz⟩
def hh_L_append : List (Nat × Nat × Nat × Nat) := [(0, 9, 12, 15), (0, 9, 15, 20)]
theorem mw_L_append : MFW yL_append cL_append 4 (some .int) hh_L_append 3 := ⟨(WS_in 624 (by decide +kernel) rfl), (WS_in 42 (by decide +kernel) rfl), by decide +kernel, by decide +kernel, by decide +kernel⟩
theorem ms_L_append : Cond.static yL_append ∈ WS := (WS_in 623 (by decide +kernel) rfl)
theorem hd_L_append_xIA : HD RL hh_L_append 4 xIA 12 := ⟨[], ⟨0, 9, 12, 15⟩, [⟨0, 9, 15, 20⟩], xIA, rfl, rfl, by decide, by decide, cl_RL_15, (List.mem_of_getElem? (i := 521) (by decide +kernel)), fun z hz => absurd hz List.not_mem_nil⟩
theorem hd_L_append_xIS : HD RL hh_L_append 4 xIS 15 := ⟨[⟨0, 9, 12, 15⟩], ⟨0, 9, 15, 20⟩, [], xIS, rfl, rfl, by decide, by decide, cl_RL_20, (List.mem_of_getElem? (i := 560) (by decide +kernel)), fun z hz => by
  rcases hz with _ | ⟨_, hz⟩
  · exact ⟨(by decide), xIA, cl_RL_15, fun U h => h.2.2⟩
  · cases hz⟩
def hh_L_corridor : List (Nat × Nat × Nat × Nat) := [(0, 8, 11, 15)]
theorem mw_L_corridor : MFW yL_corridor cL_corridor 3 (some .int) hh_L_corridor 2 := ⟨(WS_in 637 (by decide +kernel) rfl), (WS_in 42 (by decide +kernel) rfl), by decide +kernel, by decide +kernel, by decide +kernel⟩
theorem ms_L_corridor : Cond.static yL_corridor ∈ WS := (WS_in 636 (by decide +kernel) rfl)
theorem hd_L_corridor_xIA : HD RL hh_L_corridor 3 xIA 11 := ⟨[], ⟨0, 8, 11, 15⟩, [], xIA, rfl, rfl, by decide, by decide, cl_RL_15, (List.mem_of_getElem? (i := 521) (by decide +kernel)), fun z hz => absurd hz List.not_mem_nil⟩
def hh_L_undo : List (Nat × Nat × Nat × Nat) := [(0, 8, 11, 20)]
theorem mw_L_undo : MFW yL_undo cL_undo 3 (some .int) hh_L_undo 2 := ⟨(WS_in 645 (by decide +kernel) rfl), (WS_in 42 (by decide +kernel) rfl), by decide +kernel, by decide +kernel, by decide +kernel⟩
theorem ms_L_undo : Cond.static yL_undo ∈ WS := (WS_in 644 (by decide +kernel) rfl)
theorem hd_L_undo_xIS : HD RL hh_L_undo 3 xIS 11 := ⟨[], ⟨0, 8, 11, 20⟩, [], xIS, rfl, rfl, by decide, by decide, cl_RL_20, (List.mem_of_getElem? (i := 560) (by decide +kernel)), fun z hz => absurd hz List.not_mem_nil⟩
def hh_L_cell : List (Nat × Nat × Nat × Nat) := [(0, 10, 13, 13), (0, 10, 17, 15)]
theorem mw_L_cell : MFW yL_cell cL_cell 5 (some .int) hh_L_cell 4 := ⟨(WS_in 657 (by decide +kernel) rfl), (WS_in 42 (by decide +kernel) rfl), by decide +kernel, by decide +kernel, by decide +kernel⟩
theorem ms_L_cell : Cond.static yL_cell ∈ WS := (WS_in 656 (by decide +kernel) rfl)
theorem hd_L_cell_xIO : HD RL hh_L_cell 5 xIO 13 := ⟨[], ⟨0, 10, 13, 13⟩, [⟨0, 10, 17, 15⟩], xIO, rfl, rfl, by decide, by decide, cl_RL_13, (List.mem_of_getElem? (i := 450) (by decide +kernel)), fun z hz => absurd hz List.not_mem_nil⟩
theorem hd_L_cell_xIA : HD RL hh_L_cell 5 xIA 17 := ⟨[⟨0, 10, 13, 13⟩], ⟨0, 10, 17, 15⟩, [], xIA, rfl, rfl, by decide, by decide, cl_RL_15, (List.mem_of_getElem? (i := 521) (by decide +kernel)), fun z hz => by
  rcases hz with _ | ⟨_, hz⟩
  · exact ⟨(by decide), xIO, cl_RL_13, fun U h => h.1⟩
  · cases hz⟩
def hh_L_walker : List (Nat × Nat × Nat × Nat) := [(0, 9, 12, 15)]
theorem mw_L_walker : MFW yL_walker cL_walker 4 (some .int) hh_L_walker 3 := ⟨(WS_in 665 (by decide +kernel) rfl), (WS_in 42 (by decide +kernel) rfl), by decide +kernel, by decide +kernel, by decide +kernel⟩
theorem ms_L_walker : Cond.static yL_walker ∈ WS := (WS_in 664 (by decide +kernel) rfl)
theorem hd_L_walker_xIA : HD RL hh_L_walker 4 xIA 12 := ⟨[], ⟨0, 9, 12, 15⟩, [], xIA, rfl, rfl, by decide, by decide, cl_RL_15, (List.mem_of_getElem? (i := 521) (by decide +kernel)), fun z hz => absurd hz List.not_mem_nil⟩
def hh_L_plan : List (Nat × Nat × Nat × Nat) := [(0, 10, 13, 13), (0, 10, 17, 15)]
theorem mw_L_plan : MFW yL_plan cL_plan 5 (some .int) hh_L_plan 4 := ⟨(WS_in 673 (by decide +kernel) rfl), (WS_in 42 (by decide +kernel) rfl), by decide +kernel, by decide +kernel, by decide +kernel⟩
theorem ms_L_plan : Cond.static yL_plan ∈ WS := (WS_in 672 (by decide +kernel) rfl)
theorem hd_L_plan_xIO : HD RL hh_L_plan 5 xIO 13 := ⟨[], ⟨0, 10, 13, 13⟩, [⟨0, 10, 17, 15⟩], xIO, rfl, rfl, by decide, by decide, cl_RL_13, (List.mem_of_getElem? (i := 450) (by decide +kernel)), fun z hz => absurd hz List.not_mem_nil⟩
theorem hd_L_plan_xIA : HD RL hh_L_plan 5 xIA 17 := ⟨[⟨0, 10, 13, 13⟩], ⟨0, 10, 17, 15⟩, [], xIA, rfl, rfl, by decide, by decide, cl_RL_15, (List.mem_of_getElem? (i := 521) (by decide +kernel)), fun z hz => by
  rcases hz with _ | ⟨_, hz⟩
  · exact ⟨(by decide), xIO, cl_RL_13, fun U h => h.1⟩
  · cases hz⟩
def hh_L_count : List (Nat × Nat × Nat × Nat) := [(0, 9, 12, 15)]
theorem mw_L_count : MFW yL_count cL_count 4 (some .int) hh_L_count 3 := ⟨(WS_in 681 (by decide +kernel) rfl), (WS_in 42 (by decide +kernel) rfl), by decide +kernel, by decide +kernel, by decide +kernel⟩
theorem ms_L_count : Cond.static yL_count ∈ WS := (WS_in 680 (by decide +kernel) rfl)
theorem hd_L_count_xIA : HD RL hh_L_count 4 xIA 12 := ⟨[], ⟨0, 9, 12, 15⟩, [], xIA, rfl, rfl, by decide, by decide, cl_RL_15, (List.mem_of_getElem? (i := 521) (by decide +kernel)), fun z hz => absurd hz List.not_mem_nil⟩
def hh_L_refusal : List (Nat × Nat × Nat × Nat) := [(0, 9, 12, 15)]
theorem mw_L_refusal : MFW yL_refusal cL_refusal 4 (some .int) hh_L_refusal 3 := ⟨(WS_in 688 (by decide +kernel) rfl), (WS_in 42 (by decide +kernel) rfl), by decide +kernel, by decide +kernel, by decide +kernel⟩
theorem ms_L_refusal : Cond.static yL_refusal ∈ WS := (WS_in 687 (by decide +kernel) rfl)
theorem hd_L_refusal_xIA : HD RL hh_L_refusal 4 xIA 12 := ⟨[], ⟨0, 9, 12, 15⟩, [], xIA, rfl, rfl, by decide, by decide, cl_RL_15, (List.mem_of_getElem? (i := 521) (by decide +kernel)), fun z hz => absurd hz List.not_mem_nil⟩
def hh_L_ifDoor : List (Nat × Nat × Nat × Nat) := [(0, 10, 13, 13), (0, 10, 17, 15)]
theorem mw_L_ifDoor : MFW yL_ifDoor cL_ifDoor 5 (some .int) hh_L_ifDoor 4 := ⟨(WS_in 695 (by decide +kernel) rfl), (WS_in 42 (by decide +kernel) rfl), by decide +kernel, by decide +kernel, by decide +kernel⟩
theorem ms_L_ifDoor : Cond.static yL_ifDoor ∈ WS := (WS_in 694 (by decide +kernel) rfl)
theorem hd_L_ifDoor_xIO : HD RL hh_L_ifDoor 5 xIO 13 := ⟨[], ⟨0, 10, 13, 13⟩, [⟨0, 10, 17, 15⟩], xIO, rfl, rfl, by decide, by decide, cl_RL_13, (List.mem_of_getElem? (i := 450) (by decide +kernel)), fun z hz => absurd hz List.not_mem_nil⟩
theorem hd_L_ifDoor_xIA : HD RL hh_L_ifDoor 5 xIA 17 := ⟨[⟨0, 10, 13, 13⟩], ⟨0, 10, 17, 15⟩, [], xIA, rfl, rfl, by decide, by decide, cl_RL_15, (List.mem_of_getElem? (i := 521) (by decide +kernel)), fun z hz => by
  rcases hz with _ | ⟨_, hz⟩
  · exact ⟨(by decide), xIO, cl_RL_13, fun U h => h.1⟩
  · cases hz⟩
def hh_L_without : List (Nat × Nat × Nat × Nat) := [(0, 9, 12, 13)]
theorem mw_L_without : MFW yL_without cL_without 4 (some .int) hh_L_without 3 := ⟨(WS_in 702 (by decide +kernel) rfl), (WS_in 42 (by decide +kernel) rfl), by decide +kernel, by decide +kernel, by decide +kernel⟩
theorem ms_L_without : Cond.static yL_without ∈ WS := (WS_in 701 (by decide +kernel) rfl)
theorem hd_L_without_xIO : HD RL hh_L_without 4 xIO 12 := ⟨[], ⟨0, 9, 12, 13⟩, [], xIO, rfl, rfl, by decide, by decide, cl_RL_13, (List.mem_of_getElem? (i := 450) (by decide +kernel)), fun z hz => absurd hz List.not_mem_nil⟩
theorem mq_RL_70 : Cond.methodLink RL 70 yX5_init ∈ WS := (WS_in 60 (by decide +kernel) rfl)
theorem mq_RL_106 : Cond.methodLink RL 106 yX5_clearBuffer ∈ WS := (WS_in 194 (by decide +kernel) rfl)
theorem mq_RL_110 : Cond.methodLink RL 110 yX5_firstError ∈ WS := (WS_in 198 (by decide +kernel) rfl)
theorem mq_RL_142 : Cond.methodLink RL 142 yX5_bestFold ∈ WS := (WS_in 269 (by decide +kernel) rfl)
theorem mq_RL_146 : Cond.methodLink RL 146 yX5_reached ∈ WS := (WS_in 345 (by decide +kernel) rfl)
theorem mq_RL_151 : Cond.methodLink RL 151 yX5_digest ∈ WS := (WS_in 350 (by decide +kernel) rfl)
theorem mq_RL_74 : Cond.methodLink RL 74 yL_door ∈ WS := (WS_in 438 (by decide +kernel) rfl)
theorem mq_RL_7 : Cond.methodLink RL 7 yX5_door ∈ WS := (WS_in 443 (by decide +kernel) rfl)
theorem mq_RL_83 : Cond.methodLink RL 83 yL_key ∈ WS := (WS_in 547 (by decide +kernel) rfl)
theorem mq_RL_17 : Cond.methodLink RL 17 yX5_key ∈ WS := (WS_in 551 (by decide +kernel) rfl)
theorem mq_RL_86 : Cond.methodLink RL 86 yL_ladder ∈ WS := (WS_in 574 (by decide +kernel) rfl)
theorem mq_RL_22 : Cond.methodLink RL 22 yX5_ladder ∈ WS := (WS_in 577 (by decide +kernel) rfl)
theorem mq_RL_90 : Cond.methodLink RL 90 yL_fold ∈ WS := (WS_in 582 (by decide +kernel) rfl)
theorem mq_RL_26 : Cond.methodLink RL 26 yX5_fold ∈ WS := (WS_in 585 (by decide +kernel) rfl)
theorem mq_RL_94 : Cond.methodLink RL 94 yL_stand ∈ WS := (WS_in 590 (by decide +kernel) rfl)
theorem mq_RL_30 : Cond.methodLink RL 30 yX5_stand ∈ WS := (WS_in 593 (by decide +kernel) rfl)
theorem mq_RL_97 : Cond.methodLink RL 97 yL_step ∈ WS := (WS_in 598 (by decide +kernel) rfl)
theorem mq_RL_33 : Cond.methodLink RL 33 yX5_step ∈ WS := (WS_in 601 (by decide +kernel) rfl)
theorem mq_RL_100 : Cond.methodLink RL 100 yL_walk ∈ WS := (WS_in 614 (by decide +kernel) rfl)
theorem mq_RL_36 : Cond.methodLink RL 36 yX5_walk ∈ WS := (WS_in 617 (by decide +kernel) rfl)
theorem mq_RL_103 : Cond.methodLink RL 103 yL_append ∈ WS := (WS_in 622 (by decide +kernel) rfl)
theorem mq_RL_39 : Cond.methodLink RL 39 yX5_append ∈ WS := (WS_in 625 (by decide +kernel) rfl)
theorem mq_RL_114 : Cond.methodLink RL 114 yL_corridor ∈ WS := (WS_in 635 (by decide +kernel) rfl)
theorem mq_RL_42 : Cond.methodLink RL 42 yX5_corridor ∈ WS := (WS_in 638 (by decide +kernel) rfl)
theorem mq_RL_118 : Cond.methodLink RL 118 yL_undo ∈ WS := (WS_in 643 (by decide +kernel) rfl)
theorem mq_RL_46 : Cond.methodLink RL 46 yX5_undo ∈ WS := (WS_in 646 (by decide +kernel) rfl)
theorem mq_RL_121 : Cond.methodLink RL 121 yL_cell ∈ WS := (WS_in 655 (by decide +kernel) rfl)
theorem mq_RL_49 : Cond.methodLink RL 49 yX5_cell ∈ WS := (WS_in 658 (by decide +kernel) rfl)
theorem mq_RL_124 : Cond.methodLink RL 124 yL_walker ∈ WS := (WS_in 663 (by decide +kernel) rfl)
theorem mq_RL_52 : Cond.methodLink RL 52 yX5_walker ∈ WS := (WS_in 666 (by decide +kernel) rfl)
theorem mq_RL_127 : Cond.methodLink RL 127 yL_plan ∈ WS := (WS_in 671 (by decide +kernel) rfl)
theorem mq_RL_55 : Cond.methodLink RL 55 yX5_plan ∈ WS := (WS_in 674 (by decide +kernel) rfl)
theorem mq_RL_130 : Cond.methodLink RL 130 yL_count ∈ WS := (WS_in 679 (by decide +kernel) rfl)
theorem mq_RL_58 : Cond.methodLink RL 58 yX5_count ∈ WS := (WS_in 682 (by decide +kernel) rfl)
theorem mq_RL_133 : Cond.methodLink RL 133 yL_refusal ∈ WS := (WS_in 686 (by decide +kernel) rfl)
theorem mq_RL_61 : Cond.methodLink RL 61 yX5_refusal ∈ WS := (WS_in 689 (by decide +kernel) rfl)
theorem mq_RL_136 : Cond.methodLink RL 136 yL_ifDoor ∈ WS := (WS_in 693 (by decide +kernel) rfl)
theorem mq_RL_64 : Cond.methodLink RL 64 yX5_ifDoor ∈ WS := (WS_in 696 (by decide +kernel) rfl)
theorem mq_RL_139 : Cond.methodLink RL 139 yL_without ∈ WS := (WS_in 700 (by decide +kernel) rfl)
theorem mq_RL_67 : Cond.methodLink RL 67 yX5_without ∈ WS := (WS_in 703 (by decide +kernel) rfl)
theorem mq_RL_73 : Cond.methodLink RL 73 yX6_init ∈ WS := (WS_in 709 (by decide +kernel) rfl)
theorem mq_RL_80 : Cond.methodLink RL 80 yX6_thrown ∈ WS := (WS_in 768 (by decide +kernel) rfl)
theorem mq_RL_120 : Cond.methodLink RL 120 yX6_undo ∈ WS := (WS_in 772 (by decide +kernel) rfl)
theorem mq_RL_79 : Cond.methodLink RL 79 yX6_door ∈ WS := (WS_in 783 (by decide +kernel) rfl)
theorem mq_RL_85 : Cond.methodLink RL 85 yX6_key ∈ WS := (WS_in 798 (by decide +kernel) rfl)
theorem mq_RL_89 : Cond.methodLink RL 89 yX6_ladder ∈ WS := (WS_in 809 (by decide +kernel) rfl)
theorem mq_RL_93 : Cond.methodLink RL 93 yX6_fold ∈ WS := (WS_in 813 (by decide +kernel) rfl)
theorem mq_RL_96 : Cond.methodLink RL 96 yX6_stand ∈ WS := (WS_in 817 (by decide +kernel) rfl)
theorem mq_RL_99 : Cond.methodLink RL 99 yX6_step ∈ WS := (WS_in 821 (by decide +kernel) rfl)
theorem mq_RL_102 : Cond.methodLink RL 102 yX6_walk ∈ WS := (WS_in 843 (by decide +kernel) rfl)
theorem mq_RL_105 : Cond.methodLink RL 105 yX6_append ∈ WS := (WS_in 875 (by decide +kernel) rfl)
theorem mq_RL_109 : Cond.methodLink RL 109 yX6_clearBuffer ∈ WS := (WS_in 879 (by decide +kernel) rfl)
theorem mq_RL_113 : Cond.methodLink RL 113 yX6_firstError ∈ WS := (WS_in 883 (by decide +kernel) rfl)
theorem mq_RL_117 : Cond.methodLink RL 117 yX6_corridor ∈ WS := (WS_in 895 (by decide +kernel) rfl)
theorem mq_RL_123 : Cond.methodLink RL 123 yX6_cell ∈ WS := (WS_in 899 (by decide +kernel) rfl)
theorem mq_RL_126 : Cond.methodLink RL 126 yX6_walker ∈ WS := (WS_in 907 (by decide +kernel) rfl)
theorem mq_RL_129 : Cond.methodLink RL 129 yX6_plan ∈ WS := (WS_in 911 (by decide +kernel) rfl)
theorem mq_RL_132 : Cond.methodLink RL 132 yX6_count ∈ WS := (WS_in 919 (by decide +kernel) rfl)
theorem mq_RL_135 : Cond.methodLink RL 135 yX6_refusal ∈ WS := (WS_in 943 (by decide +kernel) rfl)
theorem mq_RL_138 : Cond.methodLink RL 138 yX6_ifDoor ∈ WS := (WS_in 947 (by decide +kernel) rfl)
theorem mq_RL_141 : Cond.methodLink RL 141 yX6_without ∈ WS := (WS_in 955 (by decide +kernel) rfl)
theorem mq_RL_145 : Cond.methodLink RL 145 yX6_bestFold ∈ WS := (WS_in 959 (by decide +kernel) rfl)
theorem mq_RL_150 : Cond.methodLink RL 150 yX6_reached ∈ WS := (WS_in 967 (by decide +kernel) rfl)
theorem mq_RL_155 : Cond.methodLink RL 155 yX6_digest ∈ WS := (WS_in 976 (by decide +kernel) rfl)
