def wd_tDraws (cI cZ : ClassId) (a_t : Nat → Nat) (t_value : Int32) : va_W := [((a_t 0), .inr (1, [.int t_value]))]
def wd_tEntries (cI cZ : ClassId) (a_t : Nat → Nat) (t_nz : Nat) (t_most : Int32) (t_boats : Nat → Int32) (t_steps : Nat → Int32) (t_junctions : Nat → Int32) (t_count : Int32) : va_W := [((a_t 0), .inr (2, [.int t_most, .ref (a_t 1), .ref (a_t 2), .ref (a_t 3), .int t_count])),
  ((a_t 1), .inl (cI, t_nz, .inl t_boats)),
  ((a_t 2), .inl (cI, t_nz, .inl t_steps)),
  ((a_t 3), .inl (cI, t_nz, .inl t_junctions))]
def wd_tShelf_flFleet (cI cZ : ClassId) (a_t a_fl : Nat → Nat) (t_nz : Nat) (t_slots : Int32) (t_rows : Nat → Int32) (fl_row : Nat → Int32) : va_W := [((a_t 0), .inr (8, [.int t_slots, .ref (a_t 1)])),
  ((a_t 1), .inl (cI, t_nz, .inl t_rows)),
  ((a_fl 0), .inr (4, [.ref (a_fl 1)])),
  ((a_fl 1), .inl (cI, 21, .inl fl_row))]
def wd_tWater (cI cZ : ClassId) (a_t : Nat → Nat) (t_junctions : Int32) (t_cuts : Int32) (t_boats : Int32) (t_cutA : Nat → Int32) (t_cutB : Nat → Int32) (t_cutHard : Nat → Int32) (t_boatAt : Nat → Int32) (t_boatPull : Nat → Int32) (t_boatWear : Nat → Int32) (t_onward : Nat → Int32) (t_onwardHard : Nat → Int32) : va_W := [((a_t 0), .inr (9, [.int t_junctions, .int t_cuts, .int t_boats, .ref (a_t 1), .ref (a_t 2), .ref (a_t 3), .ref (a_t 4), .ref (a_t 5), .ref (a_t 6), .ref (a_t 7), .ref (a_t 8)])),
  ((a_t 1), .inl (cI, 14, .inl t_cutA)),
  ((a_t 2), .inl (cI, 14, .inl t_cutB)),
  ((a_t 3), .inl (cI, 14, .inl t_cutHard)),
  ((a_t 4), .inl (cI, 5, .inl t_boatAt)),
  ((a_t 5), .inl (cI, 5, .inl t_boatPull)),
  ((a_t 6), .inl (cI, 5, .inl t_boatWear)),
  ((a_t 7), .inl (cI, 90, .inl t_onward)),
  ((a_t 8), .inl (cI, 90, .inl t_onwardHard))]
def wd_tFleet (cI cZ : ClassId) (a_t : Nat → Nat) (t_row : Nat → Int32) : va_W := [((a_t 0), .inr (4, [.ref (a_t 1)])),
  ((a_t 1), .inl (cI, 21, .inl t_row))]
def wd_tFleet_onWater (cI cZ : ClassId) (a_t a_on : Nat → Nat) (t_row : Nat → Int32) (on_junctions : Int32) (on_cuts : Int32) (on_boats : Int32) (on_cutA : Nat → Int32) (on_cutB : Nat → Int32) (on_cutHard : Nat → Int32) (on_boatAt : Nat → Int32) (on_boatPull : Nat → Int32) (on_boatWear : Nat → Int32) (on_onward : Nat → Int32) (on_onwardHard : Nat → Int32) : va_W := [((a_t 0), .inr (4, [.ref (a_t 1)])),
  ((a_t 1), .inl (cI, 21, .inl t_row)),
  ((a_on 0), .inr (9, [.int on_junctions, .int on_cuts, .int on_boats, .ref (a_on 1), .ref (a_on 2), .ref (a_on 3), .ref (a_on 4), .ref (a_on 5), .ref (a_on 6), .ref (a_on 7), .ref (a_on 8)])),
  ((a_on 1), .inl (cI, 14, .inl on_cutA)),
  ((a_on 2), .inl (cI, 14, .inl on_cutB)),
  ((a_on 3), .inl (cI, 14, .inl on_cutHard)),
  ((a_on 4), .inl (cI, 5, .inl on_boatAt)),
  ((a_on 5), .inl (cI, 5, .inl on_boatPull)),
  ((a_on 6), .inl (cI, 5, .inl on_boatWear)),
  ((a_on 7), .inl (cI, 90, .inl on_onward)),
  ((a_on 8), .inl (cI, 90, .inl on_onwardHard))]
theorem hd_2_has : yX2_has.cls = RX2 ∧ yX2_has.cls ≠ "java/lang/invoke/MethodHandle" ∧ yX2_has.cls ≠ "java/lang/invoke/VarHandle" ∧ (parseMethodDescriptor yX2_has.desc).map (fun d => d.parameters.length) = some 1 := by decide +kernel
theorem hd_4_advance : yX4_advance.cls = RX4 ∧ yX4_advance.cls ≠ "java/lang/invoke/MethodHandle" ∧ yX4_advance.cls ≠ "java/lang/invoke/VarHandle" ∧ (parseMethodDescriptor yX4_advance.desc).map (fun d => d.parameters.length) = some 2 := by decide +kernel
theorem hd_4_at : yX4_at.cls = RX4 ∧ yX4_at.cls ≠ "java/lang/invoke/MethodHandle" ∧ yX4_at.cls ≠ "java/lang/invoke/VarHandle" ∧ (parseMethodDescriptor yX4_at.desc).map (fun d => d.parameters.length) = some 1 := by decide +kernel
theorem hd_4_from : yX4_from.cls = RX4 ∧ yX4_from.cls ≠ "java/lang/invoke/MethodHandle" ∧ yX4_from.cls ≠ "java/lang/invoke/VarHandle" ∧ (parseMethodDescriptor yX4_from.desc).map (fun d => d.parameters.length) = some 1 := by decide +kernel
theorem hd_4_get : yX4_get.cls = RX4 ∧ yX4_get.cls ≠ "java/lang/invoke/MethodHandle" ∧ yX4_get.cls ≠ "java/lang/invoke/VarHandle" ∧ (parseMethodDescriptor yX4_get.desc).map (fun d => d.parameters.length) = some 2 := by decide +kernel
theorem hd_4_isSitting : yX4_isSitting.cls = RX4 ∧ yX4_isSitting.cls ≠ "java/lang/invoke/MethodHandle" ∧ yX4_isSitting.cls ≠ "java/lang/invoke/VarHandle" ∧ (parseMethodDescriptor yX4_isSitting.desc).map (fun d => d.parameters.length) = some 2 := by decide +kernel
theorem hd_4_lighten : yX4_lighten.cls = RX4 ∧ yX4_lighten.cls ≠ "java/lang/invoke/MethodHandle" ∧ yX4_lighten.cls ≠ "java/lang/invoke/VarHandle" ∧ (parseMethodDescriptor yX4_lighten.desc).map (fun d => d.parameters.length) = some 2 := by decide +kernel
theorem hd_4_pull : yX4_pull.cls = RX4 ∧ yX4_pull.cls ≠ "java/lang/invoke/MethodHandle" ∧ yX4_pull.cls ≠ "java/lang/invoke/VarHandle" ∧ (parseMethodDescriptor yX4_pull.desc).map (fun d => d.parameters.length) = some 1 := by decide +kernel
theorem hd_4_put : yX4_put.cls = RX4 ∧ yX4_put.cls ≠ "java/lang/invoke/MethodHandle" ∧ yX4_put.cls ≠ "java/lang/invoke/VarHandle" ∧ (parseMethodDescriptor yX4_put.desc).map (fun d => d.parameters.length) = some 3 := by decide +kernel
theorem hd_4_went : yX4_went.cls = RX4 ∧ yX4_went.cls ≠ "java/lang/invoke/MethodHandle" ∧ yX4_went.cls ≠ "java/lang/invoke/VarHandle" ∧ (parseMethodDescriptor yX4_went.desc).map (fun d => d.parameters.length) = some 1 := by decide +kernel
theorem hd_9_findOnwardFrom : yX9_findOnwardFrom.cls = RX9 ∧ yX9_findOnwardFrom.cls ≠ "java/lang/invoke/MethodHandle" ∧ yX9_findOnwardFrom.cls ≠ "java/lang/invoke/VarHandle" ∧ (parseMethodDescriptor yX9_findOnwardFrom.desc).map (fun d => d.parameters.length) = some 2 := by decide +kernel
theorem hd_9_goesTo : yX9_goesTo.cls = RX9 ∧ yX9_goesTo.cls ≠ "java/lang/invoke/MethodHandle" ∧ yX9_goesTo.cls ≠ "java/lang/invoke/VarHandle" ∧ (parseMethodDescriptor yX9_goesTo.desc).map (fun d => d.parameters.length) = some 2 := by decide +kernel
theorem hd_9_hardOn : yX9_hardOn.cls = RX9 ∧ yX9_hardOn.cls ≠ "java/lang/invoke/MethodHandle" ∧ yX9_hardOn.cls ≠ "java/lang/invoke/VarHandle" ∧ (parseMethodDescriptor yX9_hardOn.desc).map (fun d => d.parameters.length) = some 2 := by decide +kernel
theorem hd_9_hasBoat : yX9_hasBoat.cls = RX9 ∧ yX9_hasBoat.cls ≠ "java/lang/invoke/MethodHandle" ∧ yX9_hasBoat.cls ≠ "java/lang/invoke/VarHandle" ∧ (parseMethodDescriptor yX9_hasBoat.desc).map (fun d => d.parameters.length) = some 1 := by decide +kernel
theorem hd_9_hasCut : yX9_hasCut.cls = RX9 ∧ yX9_hasCut.cls ≠ "java/lang/invoke/MethodHandle" ∧ yX9_hasCut.cls ≠ "java/lang/invoke/VarHandle" ∧ (parseMethodDescriptor yX9_hasCut.desc).map (fun d => d.parameters.length) = some 1 := by decide +kernel
theorem hd_9_otherEnd : yX9_otherEnd.cls = RX9 ∧ yX9_otherEnd.cls ≠ "java/lang/invoke/MethodHandle" ∧ yX9_otherEnd.cls ≠ "java/lang/invoke/VarHandle" ∧ (parseMethodDescriptor yX9_otherEnd.desc).map (fun d => d.parameters.length) = some 2 := by decide +kernel
theorem hd_9_slotOf : yX9_slotOf.cls = RX9 ∧ yX9_slotOf.cls ≠ "java/lang/invoke/MethodHandle" ∧ yX9_slotOf.cls ≠ "java/lang/invoke/VarHandle" ∧ (parseMethodDescriptor yX9_slotOf.desc).map (fun d => d.parameters.length) = some 2 := by decide +kernel
theorem hd_9_startOf : yX9_startOf.cls = RX9 ∧ yX9_startOf.cls ≠ "java/lang/invoke/MethodHandle" ∧ yX9_startOf.cls ≠ "java/lang/invoke/VarHandle" ∧ (parseMethodDescriptor yX9_startOf.desc).map (fun d => d.parameters.length) = some 1 := by decide +kernel
theorem hd_9_startPullOf : yX9_startPullOf.cls = RX9 ∧ yX9_startPullOf.cls ≠ "java/lang/invoke/MethodHandle" ∧ yX9_startPullOf.cls ≠ "java/lang/invoke/VarHandle" ∧ (parseMethodDescriptor yX9_startPullOf.desc).map (fun d => d.parameters.length) = some 1 := by decide +kernel
theorem hd_9_wearOf : yX9_wearOf.cls = RX9 ∧ yX9_wearOf.cls ≠ "java/lang/invoke/MethodHandle" ∧ yX9_wearOf.cls ≠ "java/lang/invoke/VarHandle" ∧ (parseMethodDescriptor yX9_wearOf.desc).map (fun d => d.parameters.length) = some 1 := by decide +kernel
