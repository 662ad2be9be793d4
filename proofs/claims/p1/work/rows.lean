section
-- ===== PART A: goes FIRST, ahead of the names: the tables' words, and 'selects' of the private methods out of them =====
/-- a private method of a class that the tables say can be made, by its rows of tables_1 -/
def lw_okq (q : MethodName × Nat) : Prop := (q.1.cls ≠ "java/lang/invoke/MethodHandle" ∧ q.1.cls ≠ "java/lang/invoke/VarHandle") ∧ Cond.instantiable q.1.cls q.2 ∈ tables_1 ∧ Cond.privateMethod q.1 ∈ tables_1 ∧ Cond.instanceMethod q.1 ∈ tables_1
theorem lw_p0 : lw_okq (⟨"LandingGears", "tick", "()V"⟩, 7) := ⟨⟨by decide +kernel, by decide +kernel⟩, List.mem_of_getElem? (i := 12) (by decide +kernel), List.mem_of_getElem? (i := 252) (by decide +kernel), List.mem_of_getElem? (i := 253) (by decide +kernel)⟩
theorem lw_p1 : lw_okq (⟨"LandingGears", "ordered", "()I"⟩, 7) := ⟨⟨by decide +kernel, by decide +kernel⟩, List.mem_of_getElem? (i := 12) (by decide +kernel), List.mem_of_getElem? (i := 256) (by decide +kernel), List.mem_of_getElem? (i := 257) (by decide +kernel)⟩
theorem lw_p2 : lw_okq (⟨"LandingGears$Plant", "moveSwitch", "()V"⟩, 11) := ⟨⟨by decide +kernel, by decide +kernel⟩, List.mem_of_getElem? (i := 20) (by decide +kernel), List.mem_of_getElem? (i := 275) (by decide +kernel), List.mem_of_getElem? (i := 276) (by decide +kernel)⟩
theorem lw_p3 : lw_okq (⟨"LandingGears$Plant", "movePressures", "(I)V"⟩, 11) := ⟨⟨by decide +kernel, by decide +kernel⟩, List.mem_of_getElem? (i := 20) (by decide +kernel), List.mem_of_getElem? (i := 285) (by decide +kernel), List.mem_of_getElem? (i := 286) (by decide +kernel)⟩
theorem lw_p4 : lw_okq (⟨"LandingGears$Plant", "full", "(I)Z"⟩, 11) := ⟨⟨by decide +kernel, by decide +kernel⟩, List.mem_of_getElem? (i := 20) (by decide +kernel), List.mem_of_getElem? (i := 289) (by decide +kernel), List.mem_of_getElem? (i := 290) (by decide +kernel)⟩
theorem lw_p5 : lw_okq (⟨"LandingGears$Plant", "fed", "(IZZ)Z"⟩, 11) := ⟨⟨by decide +kernel, by decide +kernel⟩, List.mem_of_getElem? (i := 20) (by decide +kernel), List.mem_of_getElem? (i := 294) (by decide +kernel), List.mem_of_getElem? (i := 295) (by decide +kernel)⟩
theorem lw_p6 : lw_okq (⟨"LandingGears$Plant", "changePressure", "(IZ)V"⟩, 11) := ⟨⟨by decide +kernel, by decide +kernel⟩, List.mem_of_getElem? (i := 20) (by decide +kernel), List.mem_of_getElem? (i := 298) (by decide +kernel), List.mem_of_getElem? (i := 299) (by decide +kernel)⟩
theorem lw_p7 : lw_okq (⟨"LandingGears$Plant", "push", "(II)I"⟩, 11) := ⟨⟨by decide +kernel, by decide +kernel⟩, List.mem_of_getElem? (i := 20) (by decide +kernel), List.mem_of_getElem? (i := 302) (by decide +kernel), List.mem_of_getElem? (i := 303) (by decide +kernel)⟩
theorem lw_p8 : lw_okq (⟨"LandingGears$Plant", "shift", "(II)Z"⟩, 11) := ⟨⟨by decide +kernel, by decide +kernel⟩, List.mem_of_getElem? (i := 20) (by decide +kernel), List.mem_of_getElem? (i := 307) (by decide +kernel), List.mem_of_getElem? (i := 308) (by decide +kernel)⟩
theorem lw_p9 : lw_okq (⟨"LandingGears$Votes", "takeOne", "(II)V"⟩, 2) := ⟨⟨by decide +kernel, by decide +kernel⟩, List.mem_of_getElem? (i := 112) (by decide +kernel), List.mem_of_getElem? (i := 327) (by decide +kernel), List.mem_of_getElem? (i := 328) (by decide +kernel)⟩
theorem lw_p10 : lw_okq (⟨"LandingGears$ControlModule", "turn", "()I"⟩, 9) := ⟨⟨by decide +kernel, by decide +kernel⟩, List.mem_of_getElem? (i := 106) (by decide +kernel), List.mem_of_getElem? (i := 338) (by decide +kernel), List.mem_of_getElem? (i := 339) (by decide +kernel)⟩
theorem lw_p11 : lw_okq (⟨"LandingGears$ControlModule", "nextStage", "()I"⟩, 9) := ⟨⟨by decide +kernel, by decide +kernel⟩, List.mem_of_getElem? (i := 106) (by decide +kernel), List.mem_of_getElem? (i := 342) (by decide +kernel), List.mem_of_getElem? (i := 343) (by decide +kernel)⟩
theorem lw_p12 : lw_okq (⟨"LandingGears$ControlModule", "gearsThere", "()Z"⟩, 9) := ⟨⟨by decide +kernel, by decide +kernel⟩, List.mem_of_getElem? (i := 106) (by decide +kernel), List.mem_of_getElem? (i := 350) (by decide +kernel), List.mem_of_getElem? (i := 351) (by decide +kernel)⟩
theorem lw_p13 : lw_okq (⟨"LandingGears$ControlModule", "gearsMayGo", "()Z"⟩, 9) := ⟨⟨by decide +kernel, by decide +kernel⟩, List.mem_of_getElem? (i := 106) (by decide +kernel), List.mem_of_getElem? (i := 354) (by decide +kernel), List.mem_of_getElem? (i := 355) (by decide +kernel)⟩
theorem lw_p14 : lw_okq (⟨"LandingGears$ControlModule", "come", "(I)V"⟩, 9) := ⟨⟨by decide +kernel, by decide +kernel⟩, List.mem_of_getElem? (i := 106) (by decide +kernel), List.mem_of_getElem? (i := 362) (by decide +kernel), List.mem_of_getElem? (i := 363) (by decide +kernel)⟩
theorem lw_p15 : lw_okq (⟨"LandingGears$Watch", "causeOfPower", "(LLandingGears$Votes;)I"⟩, 3) := ⟨⟨by decide +kernel, by decide +kernel⟩, List.mem_of_getElem? (i := 128) (by decide +kernel), List.mem_of_getElem? (i := 388) (by decide +kernel), List.mem_of_getElem? (i := 389) (by decide +kernel)⟩
def lw_privs_1 : List (MethodName × Nat) := [(⟨"LandingGears", "tick", "()V"⟩, 7), (⟨"LandingGears", "ordered", "()I"⟩, 7), (⟨"LandingGears$Plant", "moveSwitch", "()V"⟩, 11), (⟨"LandingGears$Plant", "movePressures", "(I)V"⟩, 11), (⟨"LandingGears$Plant", "full", "(I)Z"⟩, 11), (⟨"LandingGears$Plant", "fed", "(IZZ)Z"⟩, 11), (⟨"LandingGears$Plant", "changePressure", "(IZ)V"⟩, 11), (⟨"LandingGears$Plant", "push", "(II)I"⟩, 11), (⟨"LandingGears$Plant", "shift", "(II)Z"⟩, 11), (⟨"LandingGears$Votes", "takeOne", "(II)V"⟩, 2), (⟨"LandingGears$ControlModule", "turn", "()I"⟩, 9), (⟨"LandingGears$ControlModule", "nextStage", "()I"⟩, 9), (⟨"LandingGears$ControlModule", "gearsThere", "()Z"⟩, 9), (⟨"LandingGears$ControlModule", "gearsMayGo", "()Z"⟩, 9), (⟨"LandingGears$ControlModule", "come", "(I)V"⟩, 9), (⟨"LandingGears$Watch", "causeOfPower", "(LLandingGears$Votes;)I"⟩, 3)]
theorem lw_r1 : ∀ q ∈ lw_privs_1, lw_okq q := List.forall_mem_cons.mpr ⟨lw_p0, List.forall_mem_cons.mpr ⟨lw_p1, List.forall_mem_cons.mpr ⟨lw_p2, List.forall_mem_cons.mpr ⟨lw_p3, List.forall_mem_cons.mpr ⟨lw_p4, List.forall_mem_cons.mpr ⟨lw_p5, List.forall_mem_cons.mpr ⟨lw_p6, List.forall_mem_cons.mpr ⟨lw_p7, List.forall_mem_cons.mpr ⟨lw_p8, List.forall_mem_cons.mpr ⟨lw_p9, List.forall_mem_cons.mpr ⟨lw_p10, List.forall_mem_cons.mpr ⟨lw_p11, List.forall_mem_cons.mpr ⟨lw_p12, List.forall_mem_cons.mpr ⟨lw_p13, List.forall_mem_cons.mpr ⟨lw_p14, List.forall_mem_cons.mpr ⟨lw_p15, fun _ h => absurd h List.not_mem_nil⟩⟩⟩⟩⟩⟩⟩⟩⟩⟩⟩⟩⟩⟩⟩⟩
theorem lw_p16 : lw_okq (⟨"LandingGears$Watch", "causeOfDoors", "(LLandingGears$Votes;)I"⟩, 3) := ⟨⟨by decide +kernel, by decide +kernel⟩, List.mem_of_getElem? (i := 128) (by decide +kernel), List.mem_of_getElem? (i := 396) (by decide +kernel), List.mem_of_getElem? (i := 397) (by decide +kernel)⟩
theorem lw_p17 : lw_okq (⟨"LandingGears$Watch", "causeOfGears", "(LLandingGears$Votes;)I"⟩, 3) := ⟨⟨by decide +kernel, by decide +kernel⟩, List.mem_of_getElem? (i := 128) (by decide +kernel), List.mem_of_getElem? (i := 401) (by decide +kernel), List.mem_of_getElem? (i := 402) (by decide +kernel)⟩
theorem lw_p18 : lw_okq (⟨"LandingGears", "unsettled", "()Z"⟩, 7) := ⟨⟨by decide +kernel, by decide +kernel⟩, List.mem_of_getElem? (i := 12) (by decide +kernel), List.mem_of_getElem? (i := 415) (by decide +kernel), List.mem_of_getElem? (i := 416) (by decide +kernel)⟩
theorem lw_p19 : lw_okq (⟨"LandingGearsModel", "feel", "()V"⟩, 31) := ⟨⟨by decide +kernel, by decide +kernel⟩, List.mem_of_getElem? (i := 476) (by decide +kernel), List.mem_of_getElem? (i := 485) (by decide +kernel), List.mem_of_getElem? (i := 486) (by decide +kernel)⟩
theorem lw_p20 : lw_okq (⟨"LandingGearsModel", "sensor", "(I)I"⟩, 31) := ⟨⟨by decide +kernel, by decide +kernel⟩, List.mem_of_getElem? (i := 476) (by decide +kernel), List.mem_of_getElem? (i := 489) (by decide +kernel), List.mem_of_getElem? (i := 490) (by decide +kernel)⟩
theorem lw_p21 : lw_okq (⟨"LandingGearsModel", "tick", "()V"⟩, 31) := ⟨⟨by decide +kernel, by decide +kernel⟩, List.mem_of_getElem? (i := 476) (by decide +kernel), List.mem_of_getElem? (i := 623) (by decide +kernel), List.mem_of_getElem? (i := 624) (by decide +kernel)⟩
theorem lw_p22 : lw_okq (⟨"LandingGearsModel", "ordered", "()I"⟩, 31) := ⟨⟨by decide +kernel, by decide +kernel⟩, List.mem_of_getElem? (i := 476) (by decide +kernel), List.mem_of_getElem? (i := 627) (by decide +kernel), List.mem_of_getElem? (i := 628) (by decide +kernel)⟩
theorem lw_p23 : lw_okq (⟨"LandingGearsModel", "orders", "(I)I"⟩, 31) := ⟨⟨by decide +kernel, by decide +kernel⟩, List.mem_of_getElem? (i := 476) (by decide +kernel), List.mem_of_getElem? (i := 631) (by decide +kernel), List.mem_of_getElem? (i := 632) (by decide +kernel)⟩
theorem lw_p24 : lw_okq (⟨"LandingGearsModel", "press", "(IZ)V"⟩, 31) := ⟨⟨by decide +kernel, by decide +kernel⟩, List.mem_of_getElem? (i := 476) (by decide +kernel), List.mem_of_getElem? (i := 635) (by decide +kernel), List.mem_of_getElem? (i := 636) (by decide +kernel)⟩
theorem lw_p25 : lw_okq (⟨"LandingGearsModel", "move", "(III)V"⟩, 31) := ⟨⟨by decide +kernel, by decide +kernel⟩, List.mem_of_getElem? (i := 476) (by decide +kernel), List.mem_of_getElem? (i := 639) (by decide +kernel), List.mem_of_getElem? (i := 640) (by decide +kernel)⟩
theorem lw_p26 : lw_okq (⟨"LandingGearsModel", "act", "(I)V"⟩, 31) := ⟨⟨by decide +kernel, by decide +kernel⟩, List.mem_of_getElem? (i := 476) (by decide +kernel), List.mem_of_getElem? (i := 643) (by decide +kernel), List.mem_of_getElem? (i := 644) (by decide +kernel)⟩
theorem lw_p27 : lw_okq (⟨"LandingGearsModel", "vote", "(II)V"⟩, 31) := ⟨⟨by decide +kernel, by decide +kernel⟩, List.mem_of_getElem? (i := 476) (by decide +kernel), List.mem_of_getElem? (i := 647) (by decide +kernel), List.mem_of_getElem? (i := 648) (by decide +kernel)⟩
theorem lw_p28 : lw_okq (⟨"LandingGearsModel", "tell", "(II)I"⟩, 31) := ⟨⟨by decide +kernel, by decide +kernel⟩, List.mem_of_getElem? (i := 476) (by decide +kernel), List.mem_of_getElem? (i := 651) (by decide +kernel), List.mem_of_getElem? (i := 652) (by decide +kernel)⟩
theorem lw_p29 : lw_okq (⟨"LandingGearsModel", "change", "(I)V"⟩, 31) := ⟨⟨by decide +kernel, by decide +kernel⟩, List.mem_of_getElem? (i := 476) (by decide +kernel), List.mem_of_getElem? (i := 655) (by decide +kernel), List.mem_of_getElem? (i := 656) (by decide +kernel)⟩
theorem lw_p30 : lw_okq (⟨"LandingGearsModel", "come", "(II)V"⟩, 31) := ⟨⟨by decide +kernel, by decide +kernel⟩, List.mem_of_getElem? (i := 476) (by decide +kernel), List.mem_of_getElem? (i := 659) (by decide +kernel), List.mem_of_getElem? (i := 660) (by decide +kernel)⟩
theorem lw_p31 : lw_okq (⟨"LandingGearsModel", "note", "(II)V"⟩, 31) := ⟨⟨by decide +kernel, by decide +kernel⟩, List.mem_of_getElem? (i := 476) (by decide +kernel), List.mem_of_getElem? (i := 663) (by decide +kernel), List.mem_of_getElem? (i := 664) (by decide +kernel)⟩
def lw_privs_2 : List (MethodName × Nat) := [(⟨"LandingGears$Watch", "causeOfDoors", "(LLandingGears$Votes;)I"⟩, 3), (⟨"LandingGears$Watch", "causeOfGears", "(LLandingGears$Votes;)I"⟩, 3), (⟨"LandingGears", "unsettled", "()Z"⟩, 7), (⟨"LandingGearsModel", "feel", "()V"⟩, 31), (⟨"LandingGearsModel", "sensor", "(I)I"⟩, 31), (⟨"LandingGearsModel", "tick", "()V"⟩, 31), (⟨"LandingGearsModel", "ordered", "()I"⟩, 31), (⟨"LandingGearsModel", "orders", "(I)I"⟩, 31), (⟨"LandingGearsModel", "press", "(IZ)V"⟩, 31), (⟨"LandingGearsModel", "move", "(III)V"⟩, 31), (⟨"LandingGearsModel", "act", "(I)V"⟩, 31), (⟨"LandingGearsModel", "vote", "(II)V"⟩, 31), (⟨"LandingGearsModel", "tell", "(II)I"⟩, 31), (⟨"LandingGearsModel", "change", "(I)V"⟩, 31), (⟨"LandingGearsModel", "come", "(II)V"⟩, 31), (⟨"LandingGearsModel", "note", "(II)V"⟩, 31)]
theorem lw_r2 : ∀ q ∈ lw_privs_2, lw_okq q := List.forall_mem_cons.mpr ⟨lw_p16, List.forall_mem_cons.mpr ⟨lw_p17, List.forall_mem_cons.mpr ⟨lw_p18, List.forall_mem_cons.mpr ⟨lw_p19, List.forall_mem_cons.mpr ⟨lw_p20, List.forall_mem_cons.mpr ⟨lw_p21, List.forall_mem_cons.mpr ⟨lw_p22, List.forall_mem_cons.mpr ⟨lw_p23, List.forall_mem_cons.mpr ⟨lw_p24, List.forall_mem_cons.mpr ⟨lw_p25, List.forall_mem_cons.mpr ⟨lw_p26, List.forall_mem_cons.mpr ⟨lw_p27, List.forall_mem_cons.mpr ⟨lw_p28, List.forall_mem_cons.mpr ⟨lw_p29, List.forall_mem_cons.mpr ⟨lw_p30, List.forall_mem_cons.mpr ⟨lw_p31, fun _ h => absurd h List.not_mem_nil⟩⟩⟩⟩⟩⟩⟩⟩⟩⟩⟩⟩⟩⟩⟩⟩
theorem lw_p32 : lw_okq (⟨"LandingGearsModel", "advance", "(I)V"⟩, 31) := ⟨⟨by decide +kernel, by decide +kernel⟩, List.mem_of_getElem? (i := 476) (by decide +kernel), List.mem_of_getElem? (i := 667) (by decide +kernel), List.mem_of_getElem? (i := 668) (by decide +kernel)⟩
theorem lw_p33 : lw_okq (⟨"LandingGearsModel", "all", "(II)Z"⟩, 31) := ⟨⟨by decide +kernel, by decide +kernel⟩, List.mem_of_getElem? (i := 476) (by decide +kernel), List.mem_of_getElem? (i := 671) (by decide +kernel), List.mem_of_getElem? (i := 672) (by decide +kernel)⟩
theorem lw_p34 : lw_okq (⟨"LandingGearsModel", "some", "(II)Z"⟩, 31) := ⟨⟨by decide +kernel, by decide +kernel⟩, List.mem_of_getElem? (i := 476) (by decide +kernel), List.mem_of_getElem? (i := 675) (by decide +kernel), List.mem_of_getElem? (i := 676) (by decide +kernel)⟩
theorem lw_p35 : lw_okq (⟨"LandingGearsModel", "watch", "(I)I"⟩, 31) := ⟨⟨by decide +kernel, by decide +kernel⟩, List.mem_of_getElem? (i := 476) (by decide +kernel), List.mem_of_getElem? (i := 679) (by decide +kernel), List.mem_of_getElem? (i := 680) (by decide +kernel)⟩
theorem lw_p36 : lw_okq (⟨"LandingGearsModel", "isBusy", "(I)Z"⟩, 31) := ⟨⟨by decide +kernel, by decide +kernel⟩, List.mem_of_getElem? (i := 476) (by decide +kernel), List.mem_of_getElem? (i := 687) (by decide +kernel), List.mem_of_getElem? (i := 688) (by decide +kernel)⟩
def lw_privs_3 : List (MethodName × Nat) := [(⟨"LandingGearsModel", "advance", "(I)V"⟩, 31), (⟨"LandingGearsModel", "all", "(II)Z"⟩, 31), (⟨"LandingGearsModel", "some", "(II)Z"⟩, 31), (⟨"LandingGearsModel", "watch", "(I)I"⟩, 31), (⟨"LandingGearsModel", "isBusy", "(I)Z"⟩, 31)]
theorem lw_r3 : ∀ q ∈ lw_privs_3, lw_okq q := List.forall_mem_cons.mpr ⟨lw_p32, List.forall_mem_cons.mpr ⟨lw_p33, List.forall_mem_cons.mpr ⟨lw_p34, List.forall_mem_cons.mpr ⟨lw_p35, List.forall_mem_cons.mpr ⟨lw_p36, fun _ h => absurd h List.not_mem_nil⟩⟩⟩⟩⟩
def lw_privs : List (MethodName × Nat) := lw_privs_1 ++ (lw_privs_2 ++ (lw_privs_3))
def lw_tbl : List Cond := k2_sels lw_privs ++ tables_1
theorem lw_privs_ok : ∀ q ∈ lw_privs, lw_okq q := by
  show ∀ q ∈ lw_privs_1 ++ (lw_privs_2 ++ (lw_privs_3)), lw_okq q
  exact List.forall_mem_append.mpr ⟨lw_r1, List.forall_mem_append.mpr ⟨lw_r2, lw_r3⟩⟩
end
section
def RX0 : String := "LandingGears$ControlModule"
def TX0 : u_T := fun k => match k with
  | 0 => ("LandingGears$ControlModule", "number", "I", true)
  | 1 => ("LandingGears$ControlModule", "votes", "LLandingGears$Votes;", true)
  | 2 => ("LandingGears$ControlModule", "watch", "LLandingGears$Watch;", true)
  | 3 => ("LandingGears$ControlModule", "stage", "I", false)
  | 4 => ("LandingGears$ControlModule", "age", "I", false)
  | 5 => ("LandingGears$ControlModule", "goal", "I", false)
  | 6 => ("LandingGears$ControlModule", "again", "I", false)
  | 7 => ("LandingGears$ControlModule", "cause", "I", false)
  | _ => ("LandingGears$ControlModule", "dead", "I", false)
def tyX0 : Nat → FieldType := fun k => match k with
  | 0 => .int
  | 1 => .object "LandingGears$Votes"
  | 2 => .object "LandingGears$Watch"
  | 3 => .int
  | 4 => .int
  | 5 => .int
  | 6 => .int
  | 7 => .int
  | _ => .int
abbrev wsX00 : List Cond := u_ws RX0 TX0 9
theorem nmX0 : ∀ a, a < 9 → ∀ b, b < 9 → a ≠ b → (TX0 a).2.1 ≠ (TX0 b).2.1 := by decide +kernel
theorem tyX0_ok : ∀ k, k < 9 → parseFieldDescriptor (TX0 k).2.2.1 = some (tyX0 k) := by decide +kernel
abbrev cX0_init : ByteArray := prog_2_method_1_code
def yX0_init : MethodName := ⟨RX0, "<init>", "(ILLandingGears$Sensors;)V"⟩
abbrev cX0_fact : ByteArray := prog_2_method_2_code
def yX0_fact : MethodName := ⟨RX0, "fact", "(I)I"⟩
abbrev cX0_orders : ByteArray := prog_2_method_3_code
def yX0_orders : MethodName := ⟨RX0, "orders", "()I"⟩
abbrev cX0_underWay : ByteArray := prog_2_method_4_code
def yX0_underWay : MethodName := ⟨RX0, "underWay", "()Z"⟩
abbrev cX0_shows : ByteArray := prog_2_method_5_code
def yX0_shows : MethodName := ⟨RX0, "shows", "()I"⟩
abbrev cX0_act : ByteArray := prog_2_method_6_code
def yX0_act : MethodName := ⟨RX0, "act", "(LLandingGears$Sensors;LLandingGears$Log;I)V"⟩
abbrev cX0_come : ByteArray := prog_2_method_7_code
def yX0_come : MethodName := ⟨RX0, "come", "(I)V"⟩
abbrev cX0_turn : ByteArray := prog_2_method_8_code
def yX0_turn : MethodName := ⟨RX0, "turn", "()I"⟩
abbrev cX0_nextStage : ByteArray := prog_2_method_9_code
def yX0_nextStage : MethodName := ⟨RX0, "nextStage", "()I"⟩
abbrev cX0_gearsThere : ByteArray := prog_2_method_10_code
def yX0_gearsThere : MethodName := ⟨RX0, "gearsThere", "()Z"⟩
abbrev cX0_gearsMayGo : ByteArray := prog_2_method_11_code
def yX0_gearsMayGo : MethodName := ⟨RX0, "gearsMayGo", "()Z"⟩
def RX1 : String := "LandingGears$Log"
def TX1 : u_T := fun k => match k with
  | 0 => ("LandingGears$Log", "numbers", "[I", true)
  | _ => ("LandingGears$Log", "count", "I", false)
def tyX1 : Nat → FieldType := fun k => match k with
  | 0 => .array .int
  | _ => .int
abbrev wsX10 : List Cond := u_ws RX1 TX1 2
theorem nmX1 : ∀ a, a < 2 → ∀ b, b < 2 → a ≠ b → (TX1 a).2.1 ≠ (TX1 b).2.1 := by decide +kernel
theorem tyX1_ok : ∀ k, k < 2 → parseFieldDescriptor (TX1 k).2.2.1 = some (tyX1 k) := by decide +kernel
abbrev cX1_init : ByteArray := prog_3_method_1_code
def yX1_init : MethodName := ⟨RX1, "<init>", "()V"⟩
abbrev cX1_add : ByteArray := prog_3_method_2_code
def yX1_add : MethodName := ⟨RX1, "add", "(III)V"⟩
abbrev cX1_number : ByteArray := prog_3_method_3_code
def yX1_number : MethodName := ⟨RX1, "number", "(II)I"⟩
def RX2 : String := "LandingGears$Plant"
def TX2 : u_T := fun k => match k with
  | 0 => ("LandingGears$Plant", "length", "[I", true)
  | 1 => ("LandingGears$Plant", "place", "[I", true)
  | 2 => ("LandingGears$Plant", "cylinderStuck", "[I", true)
  | 3 => ("LandingGears$Plant", "pressure", "[I", true)
  | 4 => ("LandingGears$Plant", "valveStuck", "[I", true)
  | 5 => ("LandingGears$Plant", "handle", "I", false)
  | 6 => ("LandingGears$Plant", "level", "I", false)
  | 7 => ("LandingGears$Plant", "hold", "I", false)
  | 8 => ("LandingGears$Plant", "switchStuck", "I", false)
  | 9 => ("LandingGears$Plant", "ground", "I", false)
  | _ => ("LandingGears$Plant", "scrapes", "I", false)
def tyX2 : Nat → FieldType := fun k => match k with
  | 0 => .array .int
  | 1 => .array .int
  | 2 => .array .int
  | 3 => .array .int
  | 4 => .array .int
  | 5 => .int
  | 6 => .int
  | 7 => .int
  | 8 => .int
  | 9 => .int
  | _ => .int
abbrev wsX20 : List Cond := u_ws RX2 TX2 11
theorem nmX2 : ∀ a, a < 11 → ∀ b, b < 11 → a ≠ b → (TX2 a).2.1 ≠ (TX2 b).2.1 := by decide +kernel
theorem tyX2_ok : ∀ k, k < 11 → parseFieldDescriptor (TX2 k).2.2.1 = some (tyX2 k) := by decide +kernel
abbrev cX2_init : ByteArray := prog_4_method_1_code
def yX2_init : MethodName := ⟨RX2, "<init>", "(IIII)V"⟩
abbrev cX2_usableLength : ByteArray := prog_4_method_2_code
def yX2_usableLength : MethodName := ⟨RX2, "usableLength", "(I)I"⟩
abbrev cX2_greatestLength : ByteArray := prog_4_method_3_code
def yX2_greatestLength : MethodName := ⟨RX2, "greatestLength", "(I)I"⟩
abbrev cX2_moveHandle : ByteArray := prog_4_method_4_code
def yX2_moveHandle : MethodName := ⟨RX2, "moveHandle", "(I)I"⟩
abbrev cX2_move : ByteArray := prog_4_method_5_code
def yX2_move : MethodName := ⟨RX2, "move", "(I)V"⟩
abbrev cX2_moveSwitch : ByteArray := prog_4_method_6_code
def yX2_moveSwitch : MethodName := ⟨RX2, "moveSwitch", "()V"⟩
abbrev cX2_movePressures : ByteArray := prog_4_method_7_code
def yX2_movePressures : MethodName := ⟨RX2, "movePressures", "(I)V"⟩
abbrev cX2_fed : ByteArray := prog_4_method_8_code
def yX2_fed : MethodName := ⟨RX2, "fed", "(IZZ)Z"⟩
abbrev cX2_changePressure : ByteArray := prog_4_method_9_code
def yX2_changePressure : MethodName := ⟨RX2, "changePressure", "(IZ)V"⟩
abbrev cX2_full : ByteArray := prog_4_method_10_code
def yX2_full : MethodName := ⟨RX2, "full", "(I)Z"⟩
abbrev cX2_push : ByteArray := prog_4_method_11_code
def yX2_push : MethodName := ⟨RX2, "push", "(II)I"⟩
abbrev cX2_shift : ByteArray := prog_4_method_12_code
def yX2_shift : MethodName := ⟨RX2, "shift", "(II)Z"⟩
def RX3 : String := "LandingGears$Sensors"
def TX3 : u_T := fun k => match k with
  | 0 => ("LandingGears$Sensors", "truth", "[I", true)
  | _ => ("LandingGears$Sensors", "faults", "[I", true)
def tyX3 : Nat → FieldType := fun k => match k with
  | 0 => .array .int
  | _ => .array .int
abbrev wsX30 : List Cond := u_ws RX3 TX3 2
theorem nmX3 : ∀ a, a < 2 → ∀ b, b < 2 → a ≠ b → (TX3 a).2.1 ≠ (TX3 b).2.1 := by decide +kernel
theorem tyX3_ok : ∀ k, k < 2 → parseFieldDescriptor (TX3 k).2.2.1 = some (tyX3 k) := by decide +kernel
abbrev cX3_init : ByteArray := prog_5_method_1_code
def yX3_init : MethodName := ⟨RX3, "<init>", "()V"⟩
abbrev cX3_feel : ByteArray := prog_5_method_2_code
def yX3_feel : MethodName := ⟨RX3, "feel", "(LLandingGears$Plant;)V"⟩
abbrev cX3_told : ByteArray := prog_5_method_3_code
def yX3_told : MethodName := ⟨RX3, "told", "(II)I"⟩
abbrev cX3_toldBits : ByteArray := prog_5_method_4_code
def yX3_toldBits : MethodName := ⟨RX3, "toldBits", "(I)I"⟩
def RX4 : String := "LandingGears$Votes"
def TX4 : u_T := fun k => match k with
  | 0 => ("LandingGears$Votes", "seen", "[I", true)
  | _ => ("LandingGears$Votes", "in", "[I", true)
def tyX4 : Nat → FieldType := fun k => match k with
  | 0 => .array .int
  | _ => .array .int
abbrev wsX40 : List Cond := u_ws RX4 TX4 2
theorem nmX4 : ∀ a, a < 2 → ∀ b, b < 2 → a ≠ b → (TX4 a).2.1 ≠ (TX4 b).2.1 := by decide +kernel
theorem tyX4_ok : ∀ k, k < 2 → parseFieldDescriptor (TX4 k).2.2.1 = some (tyX4 k) := by decide +kernel
abbrev cX4_init : ByteArray := prog_6_method_1_code
def yX4_init : MethodName := ⟨RX4, "<init>", "(LLandingGears$Sensors;)V"⟩
abbrev cX4_take : ByteArray := prog_6_method_2_code
def yX4_take : MethodName := ⟨RX4, "take", "(LLandingGears$Sensors;)V"⟩
abbrev cX4_takeOne : ByteArray := prog_6_method_3_code
def yX4_takeOne : MethodName := ⟨RX4, "takeOne", "(II)V"⟩
abbrev cX4_isSeen : ByteArray := prog_6_method_4_code
def yX4_isSeen : MethodName := ⟨RX4, "isSeen", "(I)Z"⟩
abbrev cX4_allSeen : ByteArray := prog_6_method_5_code
def yX4_allSeen : MethodName := ⟨RX4, "allSeen", "(I)Z"⟩
abbrev cX4_someSeen : ByteArray := prog_6_method_6_code
def yX4_someSeen : MethodName := ⟨RX4, "someSeen", "(I)Z"⟩
abbrev cX4_someInvalid : ByteArray := prog_6_method_7_code
def yX4_someInvalid : MethodName := ⟨RX4, "someInvalid", "()Z"⟩
def RX5 : String := "LandingGears$Watch"
def TX5 : u_T := fun k => match k with
  | 0 => ("LandingGears$Watch", "orderedFor", "[I", true)
  | 1 => ("LandingGears$Watch", "generalOffFor", "I", false)
  | _ => ("LandingGears$Watch", "sinceTurn", "I", false)
def tyX5 : Nat → FieldType := fun k => match k with
  | 0 => .array .int
  | 1 => .int
  | _ => .int
abbrev wsX50 : List Cond := u_ws RX5 TX5 3
theorem nmX5 : ∀ a, a < 3 → ∀ b, b < 3 → a ≠ b → (TX5 a).2.1 ≠ (TX5 b).2.1 := by decide +kernel
theorem tyX5_ok : ∀ k, k < 3 → parseFieldDescriptor (TX5 k).2.2.1 = some (tyX5 k) := by decide +kernel
abbrev cX5_init : ByteArray := prog_7_method_1_code
def yX5_init : MethodName := ⟨RX5, "<init>", "()V"⟩
abbrev cX5_count : ByteArray := prog_7_method_2_code
def yX5_count : MethodName := ⟨RX5, "count", "(IZ)V"⟩
abbrev cX5_firstCause : ByteArray := prog_7_method_3_code
def yX5_firstCause : MethodName := ⟨RX5, "firstCause", "(LLandingGears$Votes;)I"⟩
abbrev cX5_causeOfPower : ByteArray := prog_7_method_4_code
def yX5_causeOfPower : MethodName := ⟨RX5, "causeOfPower", "(LLandingGears$Votes;)I"⟩
abbrev cX5_causeOfDoors : ByteArray := prog_7_method_5_code
def yX5_causeOfDoors : MethodName := ⟨RX5, "causeOfDoors", "(LLandingGears$Votes;)I"⟩
abbrev cX5_causeOfGears : ByteArray := prog_7_method_6_code
def yX5_causeOfGears : MethodName := ⟨RX5, "causeOfGears", "(LLandingGears$Votes;)I"⟩
def RX6 : String := "LandingGears"
def TX6 : u_T := fun k => match k with
  | 0 => ("LandingGears", "works", "LLandingGears$Plant;", true)
  | 1 => ("LandingGears", "sensors", "LLandingGears$Sensors;", true)
  | 2 => ("LandingGears", "modules", "[LLandingGears$ControlModule;", true)
  | 3 => ("LandingGears", "rows", "LLandingGears$Log;", true)
  | 4 => ("LandingGears", "ticks", "I", false)
  | 5 => ("LandingGears", "lit", "I", false)
  | _ => ("LandingGears", "clashed", "Z", false)
def tyX6 : Nat → FieldType := fun k => match k with
  | 0 => .object "LandingGears$Plant"
  | 1 => .object "LandingGears$Sensors"
  | 2 => .array (.object "LandingGears$ControlModule")
  | 3 => .object "LandingGears$Log"
  | 4 => .int
  | 5 => .int
  | _ => .boolean
abbrev wsX60 : List Cond := u_ws RX6 TX6 7
theorem nmX6 : ∀ a, a < 7 → ∀ b, b < 7 → a ≠ b → (TX6 a).2.1 ≠ (TX6 b).2.1 := by decide +kernel
theorem tyX6_ok : ∀ k, k < 7 → parseFieldDescriptor (TX6 k).2.2.1 = some (tyX6 k) := by decide +kernel
abbrev cX6_init : ByteArray := prog_1_method_1_code
def yX6_init : MethodName := ⟨RX6, "<init>", "(IIII)V"⟩
abbrev cX6_handle : ByteArray := prog_1_method_2_code
def yX6_handle : MethodName := ⟨RX6, "handle", "(I)I"⟩
abbrev cX6_ground : ByteArray := prog_1_method_3_code
def yX6_ground : MethodName := ⟨RX6, "ground", "(I)I"⟩
abbrev cX6_channel : ByteArray := prog_1_method_4_code
def yX6_channel : MethodName := ⟨RX6, "channel", "(III)I"⟩
abbrev cX6_cylinder : ByteArray := prog_1_method_5_code
def yX6_cylinder : MethodName := ⟨RX6, "cylinder", "(II)I"⟩
abbrev cX6_valve : ByteArray := prog_1_method_6_code
def yX6_valve : MethodName := ⟨RX6, "valve", "(II)I"⟩
abbrev cX6_stick : ByteArray := prog_1_method_7_code
def yX6_stick : MethodName := ⟨RX6, "stick", "(I)I"⟩
abbrev cX6_module : ByteArray := prog_1_method_8_code
def yX6_module : MethodName := ⟨RX6, "module", "(II)I"⟩
abbrev cX6_run : ByteArray := prog_1_method_9_code
def yX6_run : MethodName := ⟨RX6, "run", "(I)I"⟩
abbrev cX6_settle : ByteArray := prog_1_method_10_code
def yX6_settle : MethodName := ⟨RX6, "settle", "(I)I"⟩
abbrev cX6_plant : ByteArray := prog_1_method_11_code
def yX6_plant : MethodName := ⟨RX6, "plant", "(I)I"⟩
abbrev cX6_about : ByteArray := prog_1_method_12_code
def yX6_about : MethodName := ⟨RX6, "about", "(II)I"⟩
abbrev cX6_sees : ByteArray := prog_1_method_13_code
def yX6_sees : MethodName := ⟨RX6, "sees", "(III)I"⟩
abbrev cX6_tells : ByteArray := prog_1_method_14_code
def yX6_tells : MethodName := ⟨RX6, "tells", "(II)I"⟩
abbrev cX6_lights : ByteArray := prog_1_method_15_code
def yX6_lights : MethodName := ⟨RX6, "lights", "()I"⟩
abbrev cX6_log : ByteArray := prog_1_method_16_code
def yX6_log : MethodName := ⟨RX6, "log", "(II)I"⟩
abbrev cX6_logged : ByteArray := prog_1_method_17_code
def yX6_logged : MethodName := ⟨RX6, "logged", "()I"⟩
abbrev cX6_bound : ByteArray := prog_1_method_18_code
def yX6_bound : MethodName := ⟨RX6, "bound", "()I"⟩
abbrev cX6_safe : ByteArray := prog_1_method_19_code
def yX6_safe : MethodName := ⟨RX6, "safe", "()Z"⟩
abbrev cX6_tick : ByteArray := prog_1_method_20_code
def yX6_tick : MethodName := ⟨RX6, "tick", "()V"⟩
abbrev cX6_ordered : ByteArray := prog_1_method_21_code
def yX6_ordered : MethodName := ⟨RX6, "ordered", "()I"⟩
abbrev cX6_unsettled : ByteArray := prog_1_method_22_code
def yX6_unsettled : MethodName := ⟨RX6, "unsettled", "()Z"⟩
abbrev cX6_outside : ByteArray := prog_1_method_23_code
def yX6_outside : MethodName := ⟨RX6, "outside", "(II)Z"⟩
abbrev cX6_exchange : ByteArray := prog_1_method_24_code
def yX6_exchange : MethodName := ⟨RX6, "exchange", "([III)I"⟩
abbrev cX6_bit : ByteArray := prog_1_method_25_code
def yX6_bit : MethodName := ⟨RX6, "bit", "(Z)I"⟩
abbrev cX6_has : ByteArray := prog_1_method_26_code
def yX6_has : MethodName := ⟨RX6, "has", "(II)Z"⟩
abbrev cX6_both : ByteArray := prog_1_method_27_code
def yX6_both : MethodName := ⟨RX6, "both", "(III)Z"⟩
def RX7 : String := "LandingGearsModel"
def TX7 : u_T := fun k => match k with
  | 0 => ("LandingGearsModel", "thrown", "I", false)
  | 1 => ("LandingGearsModel", "handle", "I", false)
  | 2 => ("LandingGearsModel", "level", "I", false)
  | 3 => ("LandingGearsModel", "hold", "I", false)
  | 4 => ("LandingGearsModel", "switchStuck", "I", false)
  | 5 => ("LandingGearsModel", "ground", "I", false)
  | 6 => ("LandingGearsModel", "ticks", "I", false)
  | 7 => ("LandingGearsModel", "scrapes", "I", false)
  | 8 => ("LandingGearsModel", "lights", "I", false)
  | 9 => ("LandingGearsModel", "both", "Z", false)
  | 10 => ("LandingGearsModel", "pressure", "[I", true)
  | 11 => ("LandingGearsModel", "valveStuck", "[I", true)
  | 12 => ("LandingGearsModel", "length", "[I", true)
  | 13 => ("LandingGearsModel", "place", "[I", true)
  | 14 => ("LandingGearsModel", "cylinderStuck", "[I", true)
  | 15 => ("LandingGearsModel", "fault", "[I", true)
  | 16 => ("LandingGearsModel", "stage", "[I", true)
  | 17 => ("LandingGearsModel", "age", "[I", true)
  | 18 => ("LandingGearsModel", "goal", "[I", true)
  | 19 => ("LandingGearsModel", "cause", "[I", true)
  | 20 => ("LandingGearsModel", "again", "[Z", true)
  | 21 => ("LandingGearsModel", "dead", "[I", true)
  | 22 => ("LandingGearsModel", "changed", "[I", true)
  | 23 => ("LandingGearsModel", "ordered", "[I", true)
  | 24 => ("LandingGearsModel", "idle", "[I", true)
  | 25 => ("LandingGearsModel", "seen", "[I", true)
  | 26 => ("LandingGearsModel", "channels", "[I", true)
  | 27 => ("LandingGearsModel", "invalid", "[Z", true)
  | 28 => ("LandingGearsModel", "truth", "[I", true)
  | 29 => ("LandingGearsModel", "logged", "I", false)
  | _ => ("LandingGearsModel", "log", "[I", true)
def tyX7 : Nat → FieldType := fun k => match k with
  | 0 => .int
  | 1 => .int
  | 2 => .int
  | 3 => .int
  | 4 => .int
  | 5 => .int
  | 6 => .int
  | 7 => .int
  | 8 => .int
  | 9 => .boolean
  | 10 => .array .int
  | 11 => .array .int
  | 12 => .array .int
  | 13 => .array .int
  | 14 => .array .int
  | 15 => .array .int
  | 16 => .array .int
  | 17 => .array .int
  | 18 => .array .int
  | 19 => .array .int
  | 20 => .array .boolean
  | 21 => .array .int
  | 22 => .array .int
  | 23 => .array .int
  | 24 => .array .int
  | 25 => .array .int
  | 26 => .array .int
  | 27 => .array .boolean
  | 28 => .array .int
  | 29 => .int
  | _ => .array .int
abbrev wsX70 : List Cond := u_ws RX7 TX7 31
theorem nmX7 : ∀ a, a < 31 → ∀ b, b < 31 → a ≠ b → (TX7 a).2.1 ≠ (TX7 b).2.1 := by decide +kernel
theorem tyX7_ok : ∀ k, k < 31 → parseFieldDescriptor (TX7 k).2.2.1 = some (tyX7 k) := by decide +kernel
abbrev cX7_init : ByteArray := prog_9_method_1_code
def yX7_init : MethodName := ⟨RX7, "<init>", "(IIII)V"⟩
abbrev cX7_lengthOf : ByteArray := prog_9_method_2_code
def yX7_lengthOf : MethodName := ⟨RX7, "lengthOf", "(I)I"⟩
abbrev cX7_in : ByteArray := prog_9_method_4_code
def yX7_in : MethodName := ⟨RX7, "in", "(III)Z"⟩
abbrev cX7_handle : ByteArray := prog_9_method_5_code
def yX7_handle : MethodName := ⟨RX7, "handle", "(I)I"⟩
abbrev cX7_ground : ByteArray := prog_9_method_6_code
def yX7_ground : MethodName := ⟨RX7, "ground", "(I)I"⟩
abbrev cX7_channel : ByteArray := prog_9_method_7_code
def yX7_channel : MethodName := ⟨RX7, "channel", "(III)I"⟩
abbrev cX7_cylinder : ByteArray := prog_9_method_8_code
def yX7_cylinder : MethodName := ⟨RX7, "cylinder", "(II)I"⟩
abbrev cX7_valve : ByteArray := prog_9_method_9_code
def yX7_valve : MethodName := ⟨RX7, "valve", "(II)I"⟩
abbrev cX7_stick : ByteArray := prog_9_method_10_code
def yX7_stick : MethodName := ⟨RX7, "stick", "(I)I"⟩
abbrev cX7_module : ByteArray := prog_9_method_11_code
def yX7_module : MethodName := ⟨RX7, "module", "(II)I"⟩
abbrev cX7_sensor : ByteArray := prog_9_method_12_code
def yX7_sensor : MethodName := ⟨RX7, "sensor", "(I)I"⟩
abbrev cX7_feel : ByteArray := prog_9_method_13_code
def yX7_feel : MethodName := ⟨RX7, "feel", "()V"⟩
abbrev cX7_tell : ByteArray := prog_9_method_14_code
def yX7_tell : MethodName := ⟨RX7, "tell", "(II)I"⟩
abbrev cX7_vote : ByteArray := prog_9_method_15_code
def yX7_vote : MethodName := ⟨RX7, "vote", "(II)V"⟩
abbrev cX7_all : ByteArray := prog_9_method_16_code
def yX7_all : MethodName := ⟨RX7, "all", "(II)Z"⟩
abbrev cX7_some : ByteArray := prog_9_method_17_code
def yX7_some : MethodName := ⟨RX7, "some", "(II)Z"⟩
abbrev cX7_orders : ByteArray := prog_9_method_18_code
def yX7_orders : MethodName := ⟨RX7, "orders", "(I)I"⟩
abbrev cX7_ordered : ByteArray := prog_9_method_19_code
def yX7_ordered : MethodName := ⟨RX7, "ordered", "()I"⟩
abbrev cX7_note : ByteArray := prog_9_method_20_code
def yX7_note : MethodName := ⟨RX7, "note", "(II)V"⟩
abbrev cX7_come : ByteArray := prog_9_method_21_code
def yX7_come : MethodName := ⟨RX7, "come", "(II)V"⟩
abbrev cX7_change : ByteArray := prog_9_method_22_code
def yX7_change : MethodName := ⟨RX7, "change", "(I)V"⟩
abbrev cX7_advance : ByteArray := prog_9_method_23_code
def yX7_advance : MethodName := ⟨RX7, "advance", "(I)V"⟩
abbrev cX7_watch : ByteArray := prog_9_method_24_code
def yX7_watch : MethodName := ⟨RX7, "watch", "(I)I"⟩
abbrev cX7_act : ByteArray := prog_9_method_25_code
def yX7_act : MethodName := ⟨RX7, "act", "(I)V"⟩
abbrev cX7_press : ByteArray := prog_9_method_26_code
def yX7_press : MethodName := ⟨RX7, "press", "(IZ)V"⟩
abbrev cX7_move : ByteArray := prog_9_method_27_code
def yX7_move : MethodName := ⟨RX7, "move", "(III)V"⟩
abbrev cX7_tick : ByteArray := prog_9_method_28_code
def yX7_tick : MethodName := ⟨RX7, "tick", "()V"⟩
abbrev cX7_run : ByteArray := prog_9_method_29_code
def yX7_run : MethodName := ⟨RX7, "run", "(I)I"⟩
abbrev cX7_isBusy : ByteArray := prog_9_method_30_code
def yX7_isBusy : MethodName := ⟨RX7, "isBusy", "(I)Z"⟩
abbrev cX7_settle : ByteArray := prog_9_method_31_code
def yX7_settle : MethodName := ⟨RX7, "settle", "(I)I"⟩
abbrev cX7_plant : ByteArray := prog_9_method_32_code
def yX7_plant : MethodName := ⟨RX7, "plant", "(I)I"⟩
abbrev cX7_about : ByteArray := prog_9_method_33_code
def yX7_about : MethodName := ⟨RX7, "about", "(II)I"⟩
abbrev cX7_sees : ByteArray := prog_9_method_34_code
def yX7_sees : MethodName := ⟨RX7, "sees", "(III)I"⟩
abbrev cX7_tells : ByteArray := prog_9_method_35_code
def yX7_tells : MethodName := ⟨RX7, "tells", "(II)I"⟩
abbrev cX7_lights : ByteArray := prog_9_method_36_code
def yX7_lights : MethodName := ⟨RX7, "lights", "()I"⟩
abbrev cX7_log : ByteArray := prog_9_method_37_code
def yX7_log : MethodName := ⟨RX7, "log", "(II)I"⟩
abbrev cX7_logged : ByteArray := prog_9_method_38_code
def yX7_logged : MethodName := ⟨RX7, "logged", "()I"⟩
abbrev cX7_bound : ByteArray := prog_9_method_39_code
def yX7_bound : MethodName := ⟨RX7, "bound", "()I"⟩
abbrev cX7_safe : ByteArray := prog_9_method_40_code
def yX7_safe : MethodName := ⟨RX7, "safe", "()Z"⟩
def RJ6 : String := "java/lang/Integer"
def TJ6 : u_T := fun k => match k with
  | _ => ("", "", "", false)
def tyJ6 : Nat → FieldType := fun k => match k with
  | _ => .int
abbrev wsJ60 : List Cond := u_ws RJ6 TJ6 0
theorem nmJ6 : ∀ a, a < 0 → ∀ b, b < 0 → a ≠ b → (TJ6 a).2.1 ≠ (TJ6 b).2.1 := by decide +kernel
theorem tyJ6_ok : ∀ k, k < 0 → parseFieldDescriptor (TJ6 k).2.2.1 = some (tyJ6 k) := by decide +kernel
abbrev cJ6_bitCount_0f7a4 : ByteArray := prog_10_method_49_code
def yJ6_bitCount_0f7a4 : MethodName := ⟨RJ6, "bitCount", "(I)I"⟩
def RJ9 : String := "java/lang/Math"
def TJ9 : u_T := fun k => match k with
  | _ => ("", "", "", false)
def tyJ9 : Nat → FieldType := fun k => match k with
  | _ => .int
abbrev wsJ90 : List Cond := u_ws RJ9 TJ9 0
theorem nmJ9 : ∀ a, a < 0 → ∀ b, b < 0 → a ≠ b → (TJ9 a).2.1 ≠ (TJ9 b).2.1 := by decide +kernel
theorem tyJ9_ok : ∀ k, k < 0 → parseFieldDescriptor (TJ9 k).2.2.1 = some (tyJ9 k) := by decide +kernel
abbrev cJ9_floorMod_7cf53 : ByteArray := prog_11_method_50_code
def yJ9_floorMod_7cf53 : MethodName := ⟨RJ9, "floorMod", "(II)I"⟩
abbrev cJ9_max_7cf53 : ByteArray := prog_11_method_65_code
def yJ9_max_7cf53 : MethodName := ⟨RJ9, "max", "(II)I"⟩
abbrev cJ9_min_7cf53 : ByteArray := prog_11_method_69_code
def yJ9_min_7cf53 : MethodName := ⟨RJ9, "min", "(II)I"⟩
abbrev vwCl : List vw_C := [(RX0, TX0, 9), (RX1, TX1, 2), (RX2, TX2, 11), (RX3, TX3, 2), (RX4, TX4, 2), (RX5, TX5, 3), (RX6, TX6, 7), (RX7, TX7, 31)]
end
section
def wa_0 : List Cond := [Cond.code yX4_init cX4_init 3 none, Cond.methodLink RX4 3 objectInit, Cond.instanceMethod objectInit, Cond.code objectInit ⟨#[0xb1]⟩ 1 none, Cond.arrayClass .int, Cond.fieldLink RX4 9 "LandingGears$Votes" "seen" "[I", Cond.fieldLink RX4 15 "LandingGears$Votes" "in" "[I", Cond.fieldLink RX4 18 "LandingGears$Sensors" "truth" "[I", Cond.code yX5_init cX5_init 1 none, Cond.methodLink RX5 3 objectInit, Cond.fieldLink RX5 9 "LandingGears$Watch" "orderedFor" "[I", Cond.fieldLink RX5 15 "LandingGears$Watch" "generalOffFor" "I", Cond.fieldLink RX5 19 "LandingGears$Watch" "sinceTurn" "I", Cond.methodLink RX0 3 objectInit, Cond.fieldLink RX0 9 "LandingGears$ControlModule" "number" "I", Cond.classLink RX0 15 RX4, Cond.instantiable RX4 2, Cond.initialized RX4, Cond.fieldLink RX0 20 "LandingGears$ControlModule" "votes" "LLandingGears$Votes;", Cond.classLink RX0 24 RX5, Cond.instantiable RX5 3, Cond.initialized RX5, Cond.fieldLink RX0 27 "LandingGears$ControlModule" "watch" "LLandingGears$Watch;", Cond.fieldLink RX0 31 "LandingGears$ControlModule" "stage" "I"]
def wa_1 : List Cond := [Cond.fieldLink RX0 34 "LandingGears$ControlModule" "age" "I", Cond.fieldLink RX0 37 "LandingGears$ControlModule" "goal" "I", Cond.fieldLink RX0 40 "LandingGears$ControlModule" "again" "I", Cond.fieldLink RX0 43 "LandingGears$ControlModule" "cause" "I", Cond.fieldLink RX0 46 "LandingGears$ControlModule" "dead" "I", Cond.methodLink RX0 17 yX4_init, Cond.instanceMethod yX4_init, Cond.methodLink RX0 26 yX5_init, Cond.instanceMethod yX5_init, Cond.code yX0_init cX0_init 3 none, Cond.code yX6_outside cX6_outside 2 (some .boolean), Cond.code yX0_orders cX0_orders 2 (some .int), Cond.static yX6_outside, Cond.initialized RX6, Cond.code yX0_fact cX0_fact 2 (some .int), Cond.methodLink RX0 49 Lib.Math.min.name, Cond.static Lib.Math.min.name, Cond.initialized "java/lang/Math", Cond.code Lib.Math.min.name Lib.Math.min.code 2 (some .int), Cond.methodLink RX0 55 yX0_orders, Cond.instanceMethod yX0_orders, Cond.selects RX0 yX0_orders yX0_orders, Cond.initialized RX0, Cond.code yX0_underWay cX0_underWay 1 (some .boolean)]
def wa_2 : List Cond := [Cond.fieldLink RX0 67 "LandingGears$Votes" "seen" "[I", Cond.code yX4_isSeen cX4_isSeen 2 (some .boolean), Cond.code yX4_allSeen cX4_allSeen 2 (some .boolean), Cond.code yX0_shows cX0_shows 3 (some .int), Cond.methodLink RX0 70 yX4_isSeen, Cond.instanceMethod yX4_isSeen, Cond.selects RX4 yX4_isSeen yX4_isSeen, Cond.methodLink RX0 74 yX4_allSeen, Cond.instanceMethod yX4_allSeen, Cond.selects RX4 yX4_allSeen yX4_allSeen, Cond.code yX3_told cX3_told 3 (some .int), Cond.fieldLink RX3 15 "LandingGears$Sensors" "faults" "[I", Cond.fieldLink RX3 9 "LandingGears$Sensors" "truth" "[I", Cond.code yX3_toldBits cX3_toldBits 2 (some .int), Cond.methodLink RX3 47 yX3_told, Cond.instanceMethod yX3_told, Cond.selects RX3 yX3_told yX3_told, Cond.initialized RX3, Cond.code yX6_bit cX6_bit 1 (some .int), Cond.code yJ6_bitCount_0f7a4 cJ6_bitCount_0f7a4 1 (some .int), Cond.constant RJ6 265 (1431655765), Cond.constant RJ6 266 (858993459), Cond.constant RJ6 267 (252645135), Cond.code yX4_takeOne cX4_takeOne 3 none]
def wa_3 : List Cond := [Cond.static yX6_bit, Cond.methodLink RX4 35 yJ6_bitCount_0f7a4, Cond.static yJ6_bitCount_0f7a4, Cond.initialized RJ6, Cond.methodLink RX4 23 yX3_toldBits, Cond.instanceMethod yX3_toldBits, Cond.selects RX3 yX3_toldBits yX3_toldBits, Cond.methodLink RX4 27 yX4_takeOne, Cond.instanceMethod yX4_takeOne, Cond.selects RX4 yX4_takeOne yX4_takeOne, Cond.code yX4_take cX4_take 3 none, Cond.code yX0_turn cX0_turn 1 (some .int), Cond.code yX0_gearsThere cX0_gearsThere 1 (some .boolean), Cond.code yX4_someSeen cX4_someSeen 2 (some .boolean), Cond.code yX0_gearsMayGo cX0_gearsMayGo 1 (some .boolean), Cond.methodLink RX0 104 yX0_gearsThere, Cond.instanceMethod yX0_gearsThere, Cond.selects RX0 yX0_gearsThere yX0_gearsThere, Cond.methodLink RX0 111 yX4_someSeen, Cond.instanceMethod yX4_someSeen, Cond.selects RX4 yX4_someSeen yX4_someSeen, Cond.code yX0_nextStage cX0_nextStage 1 (some .int), Cond.methodLink RX0 108 yX0_gearsMayGo, Cond.instanceMethod yX0_gearsMayGo]
def wa_4 : List Cond := [Cond.selects RX0 yX0_gearsMayGo yX0_gearsMayGo, Cond.code yX0_come cX0_come 2 none, Cond.code yJ9_floorMod_7cf53 cJ9_floorMod_7cf53 3 (some .int), Cond.code yX1_add cX1_add 5 none, Cond.fieldLink RX1 15 "LandingGears$Log" "count" "I", Cond.fieldLink RX1 9 "LandingGears$Log" "numbers" "[I", Cond.methodLink RX1 19 yJ9_floorMod_7cf53, Cond.static yJ9_floorMod_7cf53, Cond.initialized RJ9, Cond.code yX6_has cX6_has 2 (some .boolean), Cond.code yX5_count cX5_count 4 none, Cond.methodLink RX5 22 Lib.Math.min.name, Cond.static yX6_has, Cond.code yX4_someInvalid cX4_someInvalid 2 (some .boolean), Cond.code yX5_causeOfPower cX5_causeOfPower 4 (some .int), Cond.methodLink RX5 48 yX4_isSeen, Cond.code yX5_causeOfDoors cX5_causeOfDoors 2 (some .int), Cond.methodLink RX5 52 yX4_allSeen, Cond.code yX5_causeOfGears cX5_causeOfGears 3 (some .int), Cond.methodLink RX5 55 yX4_someSeen, Cond.methodLink RX5 32 yX4_someInvalid, Cond.instanceMethod yX4_someInvalid, Cond.selects RX4 yX4_someInvalid yX4_someInvalid, Cond.methodLink RX5 38 yX5_causeOfPower]
def wa_5 : List Cond := [Cond.instanceMethod yX5_causeOfPower, Cond.selects RX5 yX5_causeOfPower yX5_causeOfPower, Cond.methodLink RX5 42 yX5_causeOfDoors, Cond.instanceMethod yX5_causeOfDoors, Cond.selects RX5 yX5_causeOfDoors yX5_causeOfDoors, Cond.methodLink RX5 45 yX5_causeOfGears, Cond.instanceMethod yX5_causeOfGears, Cond.selects RX5 yX5_causeOfGears yX5_causeOfGears, Cond.code yX5_firstCause cX5_firstCause 3 (some .int), Cond.methodLink RX0 77 yX4_take, Cond.instanceMethod yX4_take, Cond.selects RX4 yX4_take yX4_take, Cond.methodLink RX0 80 yX0_turn, Cond.instanceMethod yX0_turn, Cond.selects RX0 yX0_turn yX0_turn, Cond.methodLink RX0 83 yX0_nextStage, Cond.instanceMethod yX0_nextStage, Cond.selects RX0 yX0_nextStage yX0_nextStage, Cond.methodLink RX0 86 yX0_come, Cond.instanceMethod yX0_come, Cond.selects RX0 yX0_come yX0_come, Cond.methodLink RX0 90 yX1_add, Cond.instanceMethod yX1_add, Cond.selects RX1 yX1_add yX1_add]
def wa_6 : List Cond := [Cond.initialized RX1, Cond.methodLink RX0 96 yX5_count, Cond.instanceMethod yX5_count, Cond.selects RX5 yX5_count yX5_count, Cond.methodLink RX0 100 yX5_firstCause, Cond.instanceMethod yX5_firstCause, Cond.selects RX5 yX5_firstCause yX5_firstCause, Cond.code yX0_act cX0_act 6 none, Cond.code yX1_init cX1_init 1 none, Cond.methodLink RX1 3 objectInit, Cond.code yX1_number cX1_number 3 (some .int), Cond.code yX2_usableLength cX2_usableLength 1 (some .int), Cond.code yX2_init cX2_init 6 none, Cond.methodLink RX2 3 objectInit, Cond.fieldLink RX2 9 "LandingGears$Plant" "length" "[I", Cond.fieldLink RX2 15 "LandingGears$Plant" "place" "[I", Cond.fieldLink RX2 18 "LandingGears$Plant" "cylinderStuck" "[I", Cond.fieldLink RX2 21 "LandingGears$Plant" "pressure" "[I", Cond.fieldLink RX2 24 "LandingGears$Plant" "valveStuck" "[I", Cond.fieldLink RX2 31 "LandingGears$Plant" "handle" "I", Cond.fieldLink RX2 35 "LandingGears$Plant" "level" "I", Cond.fieldLink RX2 38 "LandingGears$Plant" "hold" "I", Cond.fieldLink RX2 41 "LandingGears$Plant" "switchStuck" "I", Cond.fieldLink RX2 44 "LandingGears$Plant" "ground" "I"]
def wa_7 : List Cond := [Cond.fieldLink RX2 47 "LandingGears$Plant" "scrapes" "I", Cond.methodLink RX2 27 yX2_usableLength, Cond.static yX2_usableLength, Cond.initialized RX2, Cond.code yX2_greatestLength cX2_greatestLength 2 (some .int), Cond.methodLink RX2 50 Lib.Math.max.name, Cond.static Lib.Math.max.name, Cond.code Lib.Math.max.name Lib.Math.max.code 2 (some .int), Cond.code yX2_moveHandle cX2_moveHandle 3 (some .int), Cond.code yX2_moveSwitch cX2_moveSwitch 1 none, Cond.methodLink RX2 70 Lib.Math.min.name, Cond.code yX2_full cX2_full 2 (some .boolean), Cond.code yX2_fed cX2_fed 4 (some .boolean), Cond.code yX2_changePressure cX2_changePressure 3 none, Cond.methodLink RX2 73 yX2_full, Cond.instanceMethod yX2_full, Cond.selects RX2 yX2_full yX2_full, Cond.methodLink RX2 80 yX2_fed, Cond.instanceMethod yX2_fed, Cond.selects RX2 yX2_fed yX2_fed, Cond.methodLink RX2 84 yX2_changePressure, Cond.instanceMethod yX2_changePressure, Cond.selects RX2 yX2_changePressure yX2_changePressure, Cond.code yX2_movePressures cX2_movePressures 4 none]
def wa_8 : List Cond := [Cond.code yX2_push cX2_push 3 (some .int), Cond.code yX2_shift cX2_shift 4 (some .boolean), Cond.methodLink RX2 56 yX2_moveSwitch, Cond.instanceMethod yX2_moveSwitch, Cond.selects RX2 yX2_moveSwitch yX2_moveSwitch, Cond.methodLink RX2 59 yX2_movePressures, Cond.instanceMethod yX2_movePressures, Cond.selects RX2 yX2_movePressures yX2_movePressures, Cond.methodLink RX2 63 yX2_push, Cond.instanceMethod yX2_push, Cond.selects RX2 yX2_push yX2_push, Cond.methodLink RX2 66 yX2_shift, Cond.instanceMethod yX2_shift, Cond.selects RX2 yX2_shift yX2_shift, Cond.code yX2_move cX2_move 3 none, Cond.code yX3_init cX3_init 1 none, Cond.methodLink RX3 3 objectInit, Cond.code yX3_feel cX3_feel 4 none, Cond.fieldLink RX3 18 "LandingGears$Plant" "handle" "I", Cond.fieldLink RX3 24 "LandingGears$Plant" "level" "I", Cond.fieldLink RX3 31 "LandingGears$Plant" "pressure" "[I", Cond.fieldLink RX3 34 "LandingGears$Plant" "place" "[I", Cond.fieldLink RX3 37 "LandingGears$Plant" "length" "[I", Cond.fieldLink RX3 40 "LandingGears$Plant" "ground" "I"]
def wa_9 : List Cond := [Cond.methodLink RX6 1 objectInit, Cond.classLink RX6 7 RX2, Cond.instantiable RX2 11, Cond.fieldLink RX6 12 "LandingGears" "works" "LLandingGears$Plant;", Cond.classLink RX6 18 RX3, Cond.instantiable RX3 2, Cond.fieldLink RX6 21 "LandingGears" "sensors" "LLandingGears$Sensors;", Cond.classLink RX6 29 RX0, Cond.fieldLink RX6 31 "LandingGears" "modules" "[LLandingGears$ControlModule;", Cond.instantiable RX0 9, Cond.classLink RX6 38 RX1, Cond.instantiable RX1 2, Cond.fieldLink RX6 41 "LandingGears" "rows" "LLandingGears$Log;", Cond.fieldLink RX6 45 "LandingGears" "ticks" "I", Cond.fieldLink RX6 49 "LandingGears" "lit" "I", Cond.fieldLink RX6 52 "LandingGears" "clashed" "Z", Cond.methodLink RX6 9 yX2_init, Cond.instanceMethod yX2_init, Cond.methodLink RX6 20 yX3_init, Cond.instanceMethod yX3_init, Cond.methodLink RX6 25 yX3_feel, Cond.instanceMethod yX3_feel, Cond.selects RX3 yX3_feel yX3_feel, Cond.methodLink RX6 35 yX0_init]
def wa_10 : List Cond := [Cond.instanceMethod yX0_init, Cond.methodLink RX6 40 yX1_init, Cond.instanceMethod yX1_init, Cond.code yX6_init cX6_init 6 none, Cond.code yX6_handle cX6_handle 2 (some .int), Cond.methodLink RX6 56 yX6_outside, Cond.methodLink RX6 60 yX2_moveHandle, Cond.instanceMethod yX2_moveHandle, Cond.selects RX2 yX2_moveHandle yX2_moveHandle, Cond.code yX6_ground cX6_ground 3 (some .int), Cond.fieldLink RX6 64 "LandingGears$Plant" "ground" "I", Cond.code yX6_exchange cX6_exchange 4 (some .int), Cond.code yX6_channel cX6_channel 4 (some .int), Cond.fieldLink RX6 67 "LandingGears$Sensors" "faults" "[I", Cond.methodLink RX6 71 yX6_exchange, Cond.static yX6_exchange, Cond.code yX6_cylinder cX6_cylinder 3 (some .int), Cond.fieldLink RX6 75 "LandingGears$Plant" "cylinderStuck" "[I", Cond.code yX6_valve cX6_valve 3 (some .int), Cond.fieldLink RX6 78 "LandingGears$Plant" "valveStuck" "[I", Cond.code yX6_stick cX6_stick 3 (some .int), Cond.fieldLink RX6 81 "LandingGears$Plant" "switchStuck" "I", Cond.code yX6_module cX6_module 4 (some .int), Cond.fieldLink RX6 84 "LandingGears$ControlModule" "dead" "I"]
def wa_11 : List Cond := [Cond.code yX6_ordered cX6_ordered 3 (some .int), Cond.methodLink RX6 159 yX0_orders, Cond.code yX6_both cX6_both 3 (some .boolean), Cond.methodLink RX6 165 yX6_has, Cond.methodLink RX6 112 yX6_ordered, Cond.instanceMethod yX6_ordered, Cond.selects RX6 yX6_ordered yX6_ordered, Cond.methodLink RX6 144 yX6_both, Cond.static yX6_both, Cond.methodLink RX6 148 yX2_move, Cond.instanceMethod yX2_move, Cond.selects RX2 yX2_move yX2_move, Cond.methodLink RX6 152 yX0_act, Cond.instanceMethod yX0_act, Cond.selects RX0 yX0_act yX0_act, Cond.methodLink RX6 156 yX0_shows, Cond.instanceMethod yX0_shows, Cond.selects RX0 yX0_shows yX0_shows, Cond.code yX6_tick cX6_tick 4 none, Cond.methodLink RX6 87 yX6_tick, Cond.instanceMethod yX6_tick, Cond.selects RX6 yX6_tick yX6_tick, Cond.code yX6_run cX6_run 3 (some .int), Cond.code yX6_unsettled cX6_unsettled 3 (some .boolean)]
def wa_12 : List Cond := [Cond.methodLink RX6 162 yX0_underWay, Cond.instanceMethod yX0_underWay, Cond.selects RX0 yX0_underWay yX0_underWay, Cond.methodLink RX6 90 yX6_unsettled, Cond.instanceMethod yX6_unsettled, Cond.selects RX6 yX6_unsettled yX6_unsettled, Cond.code yX6_settle cX6_settle 3 (some .int), Cond.fieldLink RX6 94 "LandingGears$Plant" "place" "[I", Cond.fieldLink RX6 97 "LandingGears$Plant" "pressure" "[I", Cond.fieldLink RX6 100 "LandingGears$Plant" "level" "I", Cond.fieldLink RX6 103 "LandingGears$Plant" "hold" "I", Cond.fieldLink RX6 106 "LandingGears$Plant" "handle" "I", Cond.fieldLink RX6 109 "LandingGears$Plant" "scrapes" "I", Cond.code yX6_plant cX6_plant 2 (some .int), Cond.code yX6_about cX6_about 3 (some .int), Cond.methodLink RX6 116 yX0_fact, Cond.instanceMethod yX0_fact, Cond.selects RX0 yX0_fact yX0_fact, Cond.code yX6_sees cX6_sees 5 (some .int), Cond.fieldLink RX6 119 "LandingGears$ControlModule" "votes" "LLandingGears$Votes;", Cond.fieldLink RX6 123 "LandingGears$Votes" "seen" "[I", Cond.fieldLink RX6 128 "LandingGears$Votes" "in" "[I", Cond.code yX6_tells cX6_tells 3 (some .int), Cond.methodLink RX6 131 yX3_told]
def wa_13 : List Cond := [Cond.code yX6_lights cX6_lights 1 (some .int), Cond.code yX6_log cX6_log 3 (some .int), Cond.methodLink RX6 135 yX1_number, Cond.instanceMethod yX1_number, Cond.selects RX1 yX1_number yX1_number, Cond.code yX6_logged cX6_logged 1 (some .int), Cond.fieldLink RX6 138 "LandingGears$Log" "count" "I", Cond.code yX6_bound cX6_bound 1 (some .int), Cond.methodLink RX6 141 yX2_greatestLength, Cond.instanceMethod yX2_greatestLength, Cond.selects RX2 yX2_greatestLength yX2_greatestLength, Cond.code yX6_safe cX6_safe 1 (some .boolean), Cond.code yX7_lengthOf cX7_lengthOf 1 (some .int), Cond.code yX7_sensor cX7_sensor 3 (some .int), Cond.fieldLink RX7 7 "LandingGearsModel" "handle" "I", Cond.fieldLink RX7 104 "LandingGearsModel" "level" "I", Cond.fieldLink RX7 19 "LandingGearsModel" "pressure" "[I", Cond.fieldLink RX7 29 "LandingGearsModel" "place" "[I", Cond.fieldLink RX7 26 "LandingGearsModel" "length" "[I", Cond.fieldLink RX7 13 "LandingGearsModel" "ground" "I", Cond.code yX7_feel cX7_feel 2 none, Cond.fieldLink RX7 75 "LandingGearsModel" "truth" "[I", Cond.methodLink RX7 88 yX7_sensor, Cond.instanceMethod yX7_sensor]
def wa_14 : List Cond := [Cond.selects RX7 yX7_sensor yX7_sensor, Cond.initialized RX7, Cond.methodLink RX7 1 objectInit, Cond.fieldLink RX7 16 "LandingGearsModel" "lights" "I", Cond.fieldLink RX7 23 "LandingGearsModel" "valveStuck" "[I", Cond.fieldLink RX7 32 "LandingGearsModel" "cylinderStuck" "[I", Cond.fieldLink RX7 35 "LandingGearsModel" "fault" "[I", Cond.fieldLink RX7 38 "LandingGearsModel" "stage" "[I", Cond.fieldLink RX7 41 "LandingGearsModel" "age" "[I", Cond.fieldLink RX7 44 "LandingGearsModel" "goal" "[I", Cond.fieldLink RX7 47 "LandingGearsModel" "cause" "[I", Cond.arrayClass .boolean, Cond.fieldLink RX7 50 "LandingGearsModel" "again" "[Z", Cond.fieldLink RX7 54 "LandingGearsModel" "dead" "[I", Cond.fieldLink RX7 57 "LandingGearsModel" "changed" "[I", Cond.fieldLink RX7 60 "LandingGearsModel" "ordered" "[I", Cond.fieldLink RX7 63 "LandingGearsModel" "idle" "[I", Cond.fieldLink RX7 66 "LandingGearsModel" "seen" "[I", Cond.fieldLink RX7 69 "LandingGearsModel" "channels" "[I", Cond.fieldLink RX7 72 "LandingGearsModel" "invalid" "[Z", Cond.fieldLink RX7 78 "LandingGearsModel" "log" "[I", Cond.methodLink RX7 81 yX7_lengthOf, Cond.static yX7_lengthOf, Cond.methodLink RX7 85 yX7_feel]
def wa_15 : List Cond := [Cond.instanceMethod yX7_feel, Cond.selects RX7 yX7_feel yX7_feel, Cond.code yX7_init cX7_init 7 none, Cond.code yX7_in cX7_in 3 (some .boolean), Cond.code yX7_handle cX7_handle 3 (some .int), Cond.fieldLink RX7 91 "LandingGearsModel" "thrown" "I", Cond.fieldLink RX7 98 "LandingGearsModel" "hold" "I", Cond.methodLink RX7 94 yX7_in, Cond.static yX7_in, Cond.code yX7_ground cX7_ground 3 (some .int), Cond.code yX7_channel cX7_channel 5 (some .int), Cond.code yX7_cylinder cX7_cylinder 4 (some .int), Cond.code yX7_valve cX7_valve 4 (some .int), Cond.code yX7_stick cX7_stick 3 (some .int), Cond.fieldLink RX7 101 "LandingGearsModel" "switchStuck" "I", Cond.code yX7_module cX7_module 4 (some .int), Cond.code yX7_tell cX7_tell 4 (some .int), Cond.code yX7_vote cX7_vote 7 none, Cond.methodLink RX7 107 yX7_tell, Cond.instanceMethod yX7_tell, Cond.selects RX7 yX7_tell yX7_tell, Cond.code yX7_all cX7_all 3 (some .boolean), Cond.code yX7_some cX7_some 3 (some .boolean), Cond.code yX7_orders cX7_orders 2 (some .int)]
def wa_16 : List Cond := [Cond.code yX7_ordered cX7_ordered 1 (some .int), Cond.methodLink RX7 111 yX7_orders, Cond.instanceMethod yX7_orders, Cond.selects RX7 yX7_orders yX7_orders, Cond.code yX7_note cX7_note 4 none, Cond.fieldLink RX7 114 "LandingGearsModel" "logged" "I", Cond.fieldLink RX7 117 "LandingGearsModel" "ticks" "I", Cond.code yX7_come cX7_come 3 none, Cond.methodLink RX7 120 yX7_note, Cond.instanceMethod yX7_note, Cond.selects RX7 yX7_note yX7_note, Cond.code yX7_change cX7_change 3 none, Cond.methodLink RX7 124 yX7_come, Cond.instanceMethod yX7_come, Cond.selects RX7 yX7_come yX7_come, Cond.methodLink RX7 127 yX7_all, Cond.instanceMethod yX7_all, Cond.selects RX7 yX7_all yX7_all, Cond.methodLink RX7 131 yX7_some, Cond.instanceMethod yX7_some, Cond.selects RX7 yX7_some yX7_some, Cond.code yX7_advance cX7_advance 4 none, Cond.code yX7_watch cX7_watch 6 (some .int), Cond.methodLink RX7 134 yX7_vote]
def wa_17 : List Cond := [Cond.instanceMethod yX7_vote, Cond.selects RX7 yX7_vote yX7_vote, Cond.methodLink RX7 137 yX7_change, Cond.instanceMethod yX7_change, Cond.selects RX7 yX7_change yX7_change, Cond.methodLink RX7 141 yX7_advance, Cond.instanceMethod yX7_advance, Cond.selects RX7 yX7_advance yX7_advance, Cond.methodLink RX7 144 yX7_watch, Cond.instanceMethod yX7_watch, Cond.selects RX7 yX7_watch yX7_watch, Cond.code yX7_act cX7_act 5 none, Cond.code yX7_press cX7_press 4 none, Cond.code yX7_move cX7_move 7 none, Cond.fieldLink RX7 147 "LandingGearsModel" "scrapes" "I", Cond.fieldLink RX7 153 "LandingGearsModel" "both" "Z", Cond.methodLink RX7 150 yX7_ordered, Cond.instanceMethod yX7_ordered, Cond.selects RX7 yX7_ordered yX7_ordered, Cond.methodLink RX7 157 yX7_press, Cond.instanceMethod yX7_press, Cond.selects RX7 yX7_press yX7_press, Cond.methodLink RX7 161 yX7_move, Cond.instanceMethod yX7_move]
def wa_18 : List Cond := [Cond.selects RX7 yX7_move yX7_move, Cond.methodLink RX7 165 yX7_act, Cond.instanceMethod yX7_act, Cond.selects RX7 yX7_act yX7_act, Cond.code yX7_tick cX7_tick 5 none, Cond.methodLink RX7 168 yX7_tick, Cond.instanceMethod yX7_tick, Cond.selects RX7 yX7_tick yX7_tick, Cond.code yX7_run cX7_run 3 (some .int), Cond.code yX7_isBusy cX7_isBusy 2 (some .boolean), Cond.methodLink RX7 171 yX7_isBusy, Cond.instanceMethod yX7_isBusy, Cond.selects RX7 yX7_isBusy yX7_isBusy, Cond.code yX7_settle cX7_settle 3 (some .int), Cond.code yX7_plant cX7_plant 2 (some .int), Cond.code yX7_about cX7_about 3 (some .int), Cond.code yX7_sees cX7_sees 4 (some .int), Cond.code yX7_tells cX7_tells 3 (some .int), Cond.code yX7_lights cX7_lights 1 (some .int), Cond.code yX7_log cX7_log 3 (some .int), Cond.code yX7_logged cX7_logged 1 (some .int), Cond.code yX7_bound cX7_bound 2 (some .int), Cond.code yX7_safe cX7_safe 1 (some .boolean), Cond.code yJ9_max_7cf53 cJ9_max_7cf53 2 (some .int)]
def wa_19 : List Cond := [Cond.code yJ9_min_7cf53 cJ9_min_7cf53 2 (some .int), Cond.instantiable RX6 7, Cond.instantiable RX7 31, Cond.instanceMethod yX6_init, Cond.instanceMethod yX7_init, Cond.instanceMethod yX6_handle, Cond.selects RX6 yX6_handle yX6_handle, Cond.instanceMethod yX7_handle, Cond.selects RX7 yX7_handle yX7_handle, Cond.instanceMethod yX6_ground, Cond.selects RX6 yX6_ground yX6_ground, Cond.instanceMethod yX7_ground, Cond.selects RX7 yX7_ground yX7_ground, Cond.instanceMethod yX6_channel, Cond.selects RX6 yX6_channel yX6_channel, Cond.instanceMethod yX7_channel, Cond.selects RX7 yX7_channel yX7_channel, Cond.instanceMethod yX6_cylinder, Cond.selects RX6 yX6_cylinder yX6_cylinder, Cond.instanceMethod yX7_cylinder, Cond.selects RX7 yX7_cylinder yX7_cylinder, Cond.instanceMethod yX6_valve, Cond.selects RX6 yX6_valve yX6_valve, Cond.instanceMethod yX7_valve]
def wa_20 : List Cond := [Cond.selects RX7 yX7_valve yX7_valve, Cond.instanceMethod yX6_stick, Cond.selects RX6 yX6_stick yX6_stick, Cond.instanceMethod yX7_stick, Cond.selects RX7 yX7_stick yX7_stick, Cond.instanceMethod yX6_module, Cond.selects RX6 yX6_module yX6_module, Cond.instanceMethod yX7_module, Cond.selects RX7 yX7_module yX7_module, Cond.instanceMethod yX6_run, Cond.selects RX6 yX6_run yX6_run, Cond.instanceMethod yX7_run, Cond.selects RX7 yX7_run yX7_run, Cond.instanceMethod yX6_settle, Cond.selects RX6 yX6_settle yX6_settle, Cond.instanceMethod yX7_settle, Cond.selects RX7 yX7_settle yX7_settle, Cond.instanceMethod yX6_plant, Cond.selects RX6 yX6_plant yX6_plant, Cond.instanceMethod yX7_plant, Cond.selects RX7 yX7_plant yX7_plant, Cond.instanceMethod yX6_about, Cond.selects RX6 yX6_about yX6_about, Cond.instanceMethod yX7_about]
def wa_21 : List Cond := [Cond.selects RX7 yX7_about yX7_about, Cond.instanceMethod yX6_sees, Cond.selects RX6 yX6_sees yX6_sees, Cond.instanceMethod yX7_sees, Cond.selects RX7 yX7_sees yX7_sees, Cond.instanceMethod yX6_tells, Cond.selects RX6 yX6_tells yX6_tells, Cond.instanceMethod yX7_tells, Cond.selects RX7 yX7_tells yX7_tells, Cond.instanceMethod yX6_lights, Cond.selects RX6 yX6_lights yX6_lights, Cond.instanceMethod yX7_lights, Cond.selects RX7 yX7_lights yX7_lights, Cond.instanceMethod yX6_log, Cond.selects RX6 yX6_log yX6_log, Cond.instanceMethod yX7_log, Cond.selects RX7 yX7_log yX7_log, Cond.instanceMethod yX6_logged, Cond.selects RX6 yX6_logged yX6_logged, Cond.instanceMethod yX7_logged, Cond.selects RX7 yX7_logged yX7_logged, Cond.instanceMethod yX6_bound, Cond.selects RX6 yX6_bound yX6_bound, Cond.instanceMethod yX7_bound]
def wa_22 : List Cond := [Cond.selects RX7 yX7_bound yX7_bound, Cond.instanceMethod yX6_safe, Cond.selects RX6 yX6_safe yX6_safe, Cond.instanceMethod yX7_safe, Cond.selects RX7 yX7_safe yX7_safe]
/-- every word that a method of the class or of the reference needs -/
def WL : List Cond := wsX00 ++ (wsX10 ++ (wsX20 ++ (wsX30 ++ (wsX40 ++ (wsX50 ++ (wsX60 ++ (wsX70)))))))
def WA : List Cond := (wa_0 ++ (wa_1 ++ (wa_2 ++ (wa_3 ++ (wa_4 ++ (wa_5 ++ (wa_6 ++ (wa_7 ++ (wa_8 ++ (wa_9 ++ (wa_10 ++ (wa_11 ++ (wa_12 ++ (wa_13 ++ (wa_14 ++ (wa_15 ++ (wa_16 ++ (wa_17 ++ (wa_18 ++ (wa_19 ++ (wa_20 ++ (wa_21 ++ (wa_22))))))))))))))))))))))) ++ WL
theorem gw_app {a b : List Cond} (h1 : a.all goodWord = true) (h2 : b.all goodWord = true) : (a ++ b).all goodWord = true := by rw [List.all_append, h1, h2]; rfl
theorem gw_0 : wa_0.all goodWord = true := by decide +kernel
theorem gw_1 : wa_1.all goodWord = true := by decide +kernel
theorem gw_2 : wa_2.all goodWord = true := by decide +kernel
theorem gw_3 : wa_3.all goodWord = true := by decide +kernel
theorem gw_4 : wa_4.all goodWord = true := by decide +kernel
theorem gw_5 : wa_5.all goodWord = true := by decide +kernel
theorem gw_6 : wa_6.all goodWord = true := by decide +kernel
theorem gw_7 : wa_7.all goodWord = true := by decide +kernel
theorem gw_8 : wa_8.all goodWord = true := by decide +kernel
theorem gw_9 : wa_9.all goodWord = true := by decide +kernel
theorem gw_10 : wa_10.all goodWord = true := by decide +kernel
theorem gw_11 : wa_11.all goodWord = true := by decide +kernel
theorem gw_12 : wa_12.all goodWord = true := by decide +kernel
theorem gw_13 : wa_13.all goodWord = true := by decide +kernel
theorem gw_14 : wa_14.all goodWord = true := by decide +kernel
theorem gw_15 : wa_15.all goodWord = true := by decide +kernel
theorem gw_16 : wa_16.all goodWord = true := by decide +kernel
theorem gw_17 : wa_17.all goodWord = true := by decide +kernel
theorem gw_18 : wa_18.all goodWord = true := by decide +kernel
theorem gw_19 : wa_19.all goodWord = true := by decide +kernel
theorem gw_20 : wa_20.all goodWord = true := by decide +kernel
theorem gw_21 : wa_21.all goodWord = true := by decide +kernel
theorem gw_22 : wa_22.all goodWord = true := by decide +kernel
theorem gw_L : WL.all goodWord = true := by decide +kernel
theorem gw_A : WA.all goodWord = true := gw_app (gw_app gw_0 (gw_app gw_1 (gw_app gw_2 (gw_app gw_3 (gw_app gw_4 (gw_app gw_5 (gw_app gw_6 (gw_app gw_7 (gw_app gw_8 (gw_app gw_9 (gw_app gw_10 (gw_app gw_11 (gw_app gw_12 (gw_app gw_13 (gw_app gw_14 (gw_app gw_15 (gw_app gw_16 (gw_app gw_17 (gw_app gw_18 (gw_app gw_19 (gw_app gw_20 (gw_app gw_21 (gw_22))))))))))))))))))))))) gw_L
theorem GA {w : Cond} (h : w ∈ WA) : (w.onTables && w.keeps) = true ∨ ∃ ty, w = .arrayClass ty := good_of_word (List.all_eq_true.mp gw_A w h)
theorem wa_l {a b : List Cond} {w : Cond} (h : w ∈ a) : w ∈ a ++ b := List.mem_append_left _ h
theorem wa_r {a b : List Cond} {w : Cond} (h : w ∈ b) : w ∈ a ++ b := List.mem_append_right _ h
theorem wi_0 {w : Cond} (h : w ∈ wa_0) : w ∈ WA := wa_l (wa_l h)
theorem wi_1 {w : Cond} (h : w ∈ wa_1) : w ∈ WA := wa_l (wa_r (wa_l h))
theorem wi_2 {w : Cond} (h : w ∈ wa_2) : w ∈ WA := wa_l (wa_r (wa_r (wa_l h)))
theorem wi_3 {w : Cond} (h : w ∈ wa_3) : w ∈ WA := wa_l (wa_r (wa_r (wa_r (wa_l h))))
theorem wi_4 {w : Cond} (h : w ∈ wa_4) : w ∈ WA := wa_l (wa_r (wa_r (wa_r (wa_r (wa_l h)))))
theorem wi_5 {w : Cond} (h : w ∈ wa_5) : w ∈ WA := wa_l (wa_r (wa_r (wa_r (wa_r (wa_r (wa_l h))))))
theorem wi_6 {w : Cond} (h : w ∈ wa_6) : w ∈ WA := wa_l (wa_r (wa_r (wa_r (wa_r (wa_r (wa_r (wa_l h)))))))
theorem wi_7 {w : Cond} (h : w ∈ wa_7) : w ∈ WA := wa_l (wa_r (wa_r (wa_r (wa_r (wa_r (wa_r (wa_r (wa_l h))))))))
theorem wi_8 {w : Cond} (h : w ∈ wa_8) : w ∈ WA := wa_l (wa_r (wa_r (wa_r (wa_r (wa_r (wa_r (wa_r (wa_r (wa_l h)))))))))
theorem wi_9 {w : Cond} (h : w ∈ wa_9) : w ∈ WA := wa_l (wa_r (wa_r (wa_r (wa_r (wa_r (wa_r (wa_r (wa_r (wa_r (wa_l h))))))))))
theorem wi_10 {w : Cond} (h : w ∈ wa_10) : w ∈ WA := wa_l (wa_r (wa_r (wa_r (wa_r (wa_r (wa_r (wa_r (wa_r (wa_r (wa_r (wa_l h)))))))))))
theorem wi_11 {w : Cond} (h : w ∈ wa_11) : w ∈ WA := wa_l (wa_r (wa_r (wa_r (wa_r (wa_r (wa_r (wa_r (wa_r (wa_r (wa_r (wa_r (wa_l h))))))))))))
theorem wi_12 {w : Cond} (h : w ∈ wa_12) : w ∈ WA := wa_l (wa_r (wa_r (wa_r (wa_r (wa_r (wa_r (wa_r (wa_r (wa_r (wa_r (wa_r (wa_r (wa_l h)))))))))))))
theorem wi_13 {w : Cond} (h : w ∈ wa_13) : w ∈ WA := wa_l (wa_r (wa_r (wa_r (wa_r (wa_r (wa_r (wa_r (wa_r (wa_r (wa_r (wa_r (wa_r (wa_r (wa_l h))))))))))))))
theorem wi_14 {w : Cond} (h : w ∈ wa_14) : w ∈ WA := wa_l (wa_r (wa_r (wa_r (wa_r (wa_r (wa_r (wa_r (wa_r (wa_r (wa_r (wa_r (wa_r (wa_r (wa_r (wa_l h)))))))))))))))
theorem wi_15 {w : Cond} (h : w ∈ wa_15) : w ∈ WA := wa_l (wa_r (wa_r (wa_r (wa_r (wa_r (wa_r (wa_r (wa_r (wa_r (wa_r (wa_r (wa_r (wa_r (wa_r (wa_r (wa_l h))))))))))))))))
theorem wi_16 {w : Cond} (h : w ∈ wa_16) : w ∈ WA := wa_l (wa_r (wa_r (wa_r (wa_r (wa_r (wa_r (wa_r (wa_r (wa_r (wa_r (wa_r (wa_r (wa_r (wa_r (wa_r (wa_r (wa_l h)))))))))))))))))
theorem wi_17 {w : Cond} (h : w ∈ wa_17) : w ∈ WA := wa_l (wa_r (wa_r (wa_r (wa_r (wa_r (wa_r (wa_r (wa_r (wa_r (wa_r (wa_r (wa_r (wa_r (wa_r (wa_r (wa_r (wa_r (wa_l h))))))))))))))))))
theorem wi_18 {w : Cond} (h : w ∈ wa_18) : w ∈ WA := wa_l (wa_r (wa_r (wa_r (wa_r (wa_r (wa_r (wa_r (wa_r (wa_r (wa_r (wa_r (wa_r (wa_r (wa_r (wa_r (wa_r (wa_r (wa_r (wa_l h)))))))))))))))))))
theorem wi_19 {w : Cond} (h : w ∈ wa_19) : w ∈ WA := wa_l (wa_r (wa_r (wa_r (wa_r (wa_r (wa_r (wa_r (wa_r (wa_r (wa_r (wa_r (wa_r (wa_r (wa_r (wa_r (wa_r (wa_r (wa_r (wa_r (wa_l h))))))))))))))))))))
theorem wi_20 {w : Cond} (h : w ∈ wa_20) : w ∈ WA := wa_l (wa_r (wa_r (wa_r (wa_r (wa_r (wa_r (wa_r (wa_r (wa_r (wa_r (wa_r (wa_r (wa_r (wa_r (wa_r (wa_r (wa_r (wa_r (wa_r (wa_r (wa_l h)))))))))))))))))))))
theorem wi_21 {w : Cond} (h : w ∈ wa_21) : w ∈ WA := wa_l (wa_r (wa_r (wa_r (wa_r (wa_r (wa_r (wa_r (wa_r (wa_r (wa_r (wa_r (wa_r (wa_r (wa_r (wa_r (wa_r (wa_r (wa_r (wa_r (wa_r (wa_r (wa_l h))))))))))))))))))))))
theorem wi_22 {w : Cond} (h : w ∈ wa_22) : w ∈ WA := wa_l (wa_r (wa_r (wa_r (wa_r (wa_r (wa_r (wa_r (wa_r (wa_r (wa_r (wa_r (wa_r (wa_r (wa_r (wa_r (wa_r (wa_r (wa_r (wa_r (wa_r (wa_r (wa_r (h)))))))))))))))))))))))
theorem hwsX00 : ∀ w ∈ wsX00, w ∈ WA := fun w h => wa_r (wa_l h)
theorem hwsX10 : ∀ w ∈ wsX10, w ∈ WA := fun w h => wa_r (wa_r (wa_l h))
theorem hwsX20 : ∀ w ∈ wsX20, w ∈ WA := fun w h => wa_r (wa_r (wa_r (wa_l h)))
theorem hwsX30 : ∀ w ∈ wsX30, w ∈ WA := fun w h => wa_r (wa_r (wa_r (wa_r (wa_l h))))
theorem hwsX40 : ∀ w ∈ wsX40, w ∈ WA := fun w h => wa_r (wa_r (wa_r (wa_r (wa_r (wa_l h)))))
theorem hwsX50 : ∀ w ∈ wsX50, w ∈ WA := fun w h => wa_r (wa_r (wa_r (wa_r (wa_r (wa_r (wa_l h))))))
theorem hwsX60 : ∀ w ∈ wsX60, w ∈ WA := fun w h => wa_r (wa_r (wa_r (wa_r (wa_r (wa_r (wa_r (wa_l h)))))))
theorem hwsX70 : ∀ w ∈ wsX70, w ∈ WA := fun w h => wa_r (wa_r (wa_r (wa_r (wa_r (wa_r (wa_r (wa_r (h))))))))
theorem mw_0 : Cond.code yX4_init cX4_init 3 none ∈ WA := wi_0 (List.mem_of_getElem? (i := 0) rfl)
theorem mw_1 : Cond.methodLink RX4 3 objectInit ∈ WA := wi_0 (List.mem_of_getElem? (i := 1) rfl)
theorem mw_2 : Cond.instanceMethod objectInit ∈ WA := wi_0 (List.mem_of_getElem? (i := 2) rfl)
theorem mw_3 : Cond.code objectInit ⟨#[0xb1]⟩ 1 none ∈ WA := wi_0 (List.mem_of_getElem? (i := 3) rfl)
theorem mw_4 : Cond.arrayClass .int ∈ WA := wi_0 (List.mem_of_getElem? (i := 4) rfl)
theorem mw_5 : Cond.fieldLink RX4 9 "LandingGears$Votes" "seen" "[I" ∈ WA := wi_0 (List.mem_of_getElem? (i := 5) rfl)
theorem mw_6 : Cond.fieldLink RX4 15 "LandingGears$Votes" "in" "[I" ∈ WA := wi_0 (List.mem_of_getElem? (i := 6) rfl)
theorem mw_7 : Cond.fieldLink RX4 18 "LandingGears$Sensors" "truth" "[I" ∈ WA := wi_0 (List.mem_of_getElem? (i := 7) rfl)
theorem mw_8 : Cond.code yX5_init cX5_init 1 none ∈ WA := wi_0 (List.mem_of_getElem? (i := 8) rfl)
theorem mw_9 : Cond.methodLink RX5 3 objectInit ∈ WA := wi_0 (List.mem_of_getElem? (i := 9) rfl)
theorem mw_10 : Cond.fieldLink RX5 9 "LandingGears$Watch" "orderedFor" "[I" ∈ WA := wi_0 (List.mem_of_getElem? (i := 10) rfl)
theorem mw_11 : Cond.fieldLink RX5 15 "LandingGears$Watch" "generalOffFor" "I" ∈ WA := wi_0 (List.mem_of_getElem? (i := 11) rfl)
theorem mw_12 : Cond.fieldLink RX5 19 "LandingGears$Watch" "sinceTurn" "I" ∈ WA := wi_0 (List.mem_of_getElem? (i := 12) rfl)
theorem mw_13 : Cond.methodLink RX0 3 objectInit ∈ WA := wi_0 (List.mem_of_getElem? (i := 13) rfl)
theorem mw_14 : Cond.fieldLink RX0 9 "LandingGears$ControlModule" "number" "I" ∈ WA := wi_0 (List.mem_of_getElem? (i := 14) rfl)
theorem mw_15 : Cond.classLink RX0 15 RX4 ∈ WA := wi_0 (List.mem_of_getElem? (i := 15) rfl)
theorem mw_16 : Cond.instantiable RX4 2 ∈ WA := wi_0 (List.mem_of_getElem? (i := 16) rfl)
theorem mw_17 : Cond.initialized RX4 ∈ WA := wi_0 (List.mem_of_getElem? (i := 17) rfl)
theorem mw_18 : Cond.fieldLink RX0 20 "LandingGears$ControlModule" "votes" "LLandingGears$Votes;" ∈ WA := wi_0 (List.mem_of_getElem? (i := 18) rfl)
theorem mw_19 : Cond.classLink RX0 24 RX5 ∈ WA := wi_0 (List.mem_of_getElem? (i := 19) rfl)
theorem mw_20 : Cond.instantiable RX5 3 ∈ WA := wi_0 (List.mem_of_getElem? (i := 20) rfl)
theorem mw_21 : Cond.initialized RX5 ∈ WA := wi_0 (List.mem_of_getElem? (i := 21) rfl)
theorem mw_22 : Cond.fieldLink RX0 27 "LandingGears$ControlModule" "watch" "LLandingGears$Watch;" ∈ WA := wi_0 (List.mem_of_getElem? (i := 22) rfl)
theorem mw_23 : Cond.fieldLink RX0 31 "LandingGears$ControlModule" "stage" "I" ∈ WA := wi_0 (List.mem_of_getElem? (i := 23) rfl)
theorem mw_24 : Cond.fieldLink RX0 34 "LandingGears$ControlModule" "age" "I" ∈ WA := wi_1 (List.mem_of_getElem? (i := 0) rfl)
theorem mw_25 : Cond.fieldLink RX0 37 "LandingGears$ControlModule" "goal" "I" ∈ WA := wi_1 (List.mem_of_getElem? (i := 1) rfl)
theorem mw_26 : Cond.fieldLink RX0 40 "LandingGears$ControlModule" "again" "I" ∈ WA := wi_1 (List.mem_of_getElem? (i := 2) rfl)
theorem mw_27 : Cond.fieldLink RX0 43 "LandingGears$ControlModule" "cause" "I" ∈ WA := wi_1 (List.mem_of_getElem? (i := 3) rfl)
theorem mw_28 : Cond.fieldLink RX0 46 "LandingGears$ControlModule" "dead" "I" ∈ WA := wi_1 (List.mem_of_getElem? (i := 4) rfl)
theorem mw_29 : Cond.methodLink RX0 17 yX4_init ∈ WA := wi_1 (List.mem_of_getElem? (i := 5) rfl)
theorem mw_30 : Cond.instanceMethod yX4_init ∈ WA := wi_1 (List.mem_of_getElem? (i := 6) rfl)
theorem mw_31 : Cond.methodLink RX0 26 yX5_init ∈ WA := wi_1 (List.mem_of_getElem? (i := 7) rfl)
theorem mw_32 : Cond.instanceMethod yX5_init ∈ WA := wi_1 (List.mem_of_getElem? (i := 8) rfl)
theorem mw_33 : Cond.code yX0_init cX0_init 3 none ∈ WA := wi_1 (List.mem_of_getElem? (i := 9) rfl)
theorem mw_34 : Cond.code yX6_outside cX6_outside 2 (some .boolean) ∈ WA := wi_1 (List.mem_of_getElem? (i := 10) rfl)
theorem mw_35 : Cond.code yX0_orders cX0_orders 2 (some .int) ∈ WA := wi_1 (List.mem_of_getElem? (i := 11) rfl)
theorem mw_36 : Cond.static yX6_outside ∈ WA := wi_1 (List.mem_of_getElem? (i := 12) rfl)
theorem mw_37 : Cond.initialized RX6 ∈ WA := wi_1 (List.mem_of_getElem? (i := 13) rfl)
theorem mw_38 : Cond.code yX0_fact cX0_fact 2 (some .int) ∈ WA := wi_1 (List.mem_of_getElem? (i := 14) rfl)
theorem mw_39 : Cond.methodLink RX0 49 Lib.Math.min.name ∈ WA := wi_1 (List.mem_of_getElem? (i := 15) rfl)
theorem mw_40 : Cond.static Lib.Math.min.name ∈ WA := wi_1 (List.mem_of_getElem? (i := 16) rfl)
theorem mw_41 : Cond.initialized "java/lang/Math" ∈ WA := wi_1 (List.mem_of_getElem? (i := 17) rfl)
theorem mw_42 : Cond.code Lib.Math.min.name Lib.Math.min.code 2 (some .int) ∈ WA := wi_1 (List.mem_of_getElem? (i := 18) rfl)
theorem mw_43 : Cond.methodLink RX0 55 yX0_orders ∈ WA := wi_1 (List.mem_of_getElem? (i := 19) rfl)
theorem mw_44 : Cond.instanceMethod yX0_orders ∈ WA := wi_1 (List.mem_of_getElem? (i := 20) rfl)
theorem mw_45 : Cond.selects RX0 yX0_orders yX0_orders ∈ WA := wi_1 (List.mem_of_getElem? (i := 21) rfl)
theorem mw_46 : Cond.initialized RX0 ∈ WA := wi_1 (List.mem_of_getElem? (i := 22) rfl)
theorem mw_47 : Cond.code yX0_underWay cX0_underWay 1 (some .boolean) ∈ WA := wi_1 (List.mem_of_getElem? (i := 23) rfl)
theorem mw_48 : Cond.fieldLink RX0 67 "LandingGears$Votes" "seen" "[I" ∈ WA := wi_2 (List.mem_of_getElem? (i := 0) rfl)
theorem mw_49 : Cond.code yX4_isSeen cX4_isSeen 2 (some .boolean) ∈ WA := wi_2 (List.mem_of_getElem? (i := 1) rfl)
theorem mw_50 : Cond.code yX4_allSeen cX4_allSeen 2 (some .boolean) ∈ WA := wi_2 (List.mem_of_getElem? (i := 2) rfl)
theorem mw_51 : Cond.code yX0_shows cX0_shows 3 (some .int) ∈ WA := wi_2 (List.mem_of_getElem? (i := 3) rfl)
theorem mw_52 : Cond.methodLink RX0 70 yX4_isSeen ∈ WA := wi_2 (List.mem_of_getElem? (i := 4) rfl)
theorem mw_53 : Cond.instanceMethod yX4_isSeen ∈ WA := wi_2 (List.mem_of_getElem? (i := 5) rfl)
theorem mw_54 : Cond.selects RX4 yX4_isSeen yX4_isSeen ∈ WA := wi_2 (List.mem_of_getElem? (i := 6) rfl)
theorem mw_55 : Cond.methodLink RX0 74 yX4_allSeen ∈ WA := wi_2 (List.mem_of_getElem? (i := 7) rfl)
theorem mw_56 : Cond.instanceMethod yX4_allSeen ∈ WA := wi_2 (List.mem_of_getElem? (i := 8) rfl)
theorem mw_57 : Cond.selects RX4 yX4_allSeen yX4_allSeen ∈ WA := wi_2 (List.mem_of_getElem? (i := 9) rfl)
theorem mw_58 : Cond.code yX3_told cX3_told 3 (some .int) ∈ WA := wi_2 (List.mem_of_getElem? (i := 10) rfl)
theorem mw_59 : Cond.fieldLink RX3 15 "LandingGears$Sensors" "faults" "[I" ∈ WA := wi_2 (List.mem_of_getElem? (i := 11) rfl)
theorem mw_60 : Cond.fieldLink RX3 9 "LandingGears$Sensors" "truth" "[I" ∈ WA := wi_2 (List.mem_of_getElem? (i := 12) rfl)
theorem mw_61 : Cond.code yX3_toldBits cX3_toldBits 2 (some .int) ∈ WA := wi_2 (List.mem_of_getElem? (i := 13) rfl)
theorem mw_62 : Cond.methodLink RX3 47 yX3_told ∈ WA := wi_2 (List.mem_of_getElem? (i := 14) rfl)
theorem mw_63 : Cond.instanceMethod yX3_told ∈ WA := wi_2 (List.mem_of_getElem? (i := 15) rfl)
theorem mw_64 : Cond.selects RX3 yX3_told yX3_told ∈ WA := wi_2 (List.mem_of_getElem? (i := 16) rfl)
theorem mw_65 : Cond.initialized RX3 ∈ WA := wi_2 (List.mem_of_getElem? (i := 17) rfl)
theorem mw_66 : Cond.code yX6_bit cX6_bit 1 (some .int) ∈ WA := wi_2 (List.mem_of_getElem? (i := 18) rfl)
theorem mw_67 : Cond.code yJ6_bitCount_0f7a4 cJ6_bitCount_0f7a4 1 (some .int) ∈ WA := wi_2 (List.mem_of_getElem? (i := 19) rfl)
theorem mw_68 : Cond.constant RJ6 265 (1431655765) ∈ WA := wi_2 (List.mem_of_getElem? (i := 20) rfl)
theorem mw_69 : Cond.constant RJ6 266 (858993459) ∈ WA := wi_2 (List.mem_of_getElem? (i := 21) rfl)
theorem mw_70 : Cond.constant RJ6 267 (252645135) ∈ WA := wi_2 (List.mem_of_getElem? (i := 22) rfl)
theorem mw_71 : Cond.code yX4_takeOne cX4_takeOne 3 none ∈ WA := wi_2 (List.mem_of_getElem? (i := 23) rfl)
theorem mw_72 : Cond.static yX6_bit ∈ WA := wi_3 (List.mem_of_getElem? (i := 0) rfl)
theorem mw_73 : Cond.methodLink RX4 35 yJ6_bitCount_0f7a4 ∈ WA := wi_3 (List.mem_of_getElem? (i := 1) rfl)
theorem mw_74 : Cond.static yJ6_bitCount_0f7a4 ∈ WA := wi_3 (List.mem_of_getElem? (i := 2) rfl)
theorem mw_75 : Cond.initialized RJ6 ∈ WA := wi_3 (List.mem_of_getElem? (i := 3) rfl)
theorem mw_76 : Cond.methodLink RX4 23 yX3_toldBits ∈ WA := wi_3 (List.mem_of_getElem? (i := 4) rfl)
theorem mw_77 : Cond.instanceMethod yX3_toldBits ∈ WA := wi_3 (List.mem_of_getElem? (i := 5) rfl)
theorem mw_78 : Cond.selects RX3 yX3_toldBits yX3_toldBits ∈ WA := wi_3 (List.mem_of_getElem? (i := 6) rfl)
theorem mw_79 : Cond.methodLink RX4 27 yX4_takeOne ∈ WA := wi_3 (List.mem_of_getElem? (i := 7) rfl)
theorem mw_80 : Cond.instanceMethod yX4_takeOne ∈ WA := wi_3 (List.mem_of_getElem? (i := 8) rfl)
theorem mw_81 : Cond.selects RX4 yX4_takeOne yX4_takeOne ∈ WA := wi_3 (List.mem_of_getElem? (i := 9) rfl)
theorem mw_82 : Cond.code yX4_take cX4_take 3 none ∈ WA := wi_3 (List.mem_of_getElem? (i := 10) rfl)
theorem mw_83 : Cond.code yX0_turn cX0_turn 1 (some .int) ∈ WA := wi_3 (List.mem_of_getElem? (i := 11) rfl)
theorem mw_84 : Cond.code yX0_gearsThere cX0_gearsThere 1 (some .boolean) ∈ WA := wi_3 (List.mem_of_getElem? (i := 12) rfl)
theorem mw_85 : Cond.code yX4_someSeen cX4_someSeen 2 (some .boolean) ∈ WA := wi_3 (List.mem_of_getElem? (i := 13) rfl)
theorem mw_86 : Cond.code yX0_gearsMayGo cX0_gearsMayGo 1 (some .boolean) ∈ WA := wi_3 (List.mem_of_getElem? (i := 14) rfl)
theorem mw_87 : Cond.methodLink RX0 104 yX0_gearsThere ∈ WA := wi_3 (List.mem_of_getElem? (i := 15) rfl)
theorem mw_88 : Cond.instanceMethod yX0_gearsThere ∈ WA := wi_3 (List.mem_of_getElem? (i := 16) rfl)
theorem mw_89 : Cond.selects RX0 yX0_gearsThere yX0_gearsThere ∈ WA := wi_3 (List.mem_of_getElem? (i := 17) rfl)
theorem mw_90 : Cond.methodLink RX0 111 yX4_someSeen ∈ WA := wi_3 (List.mem_of_getElem? (i := 18) rfl)
theorem mw_91 : Cond.instanceMethod yX4_someSeen ∈ WA := wi_3 (List.mem_of_getElem? (i := 19) rfl)
theorem mw_92 : Cond.selects RX4 yX4_someSeen yX4_someSeen ∈ WA := wi_3 (List.mem_of_getElem? (i := 20) rfl)
theorem mw_93 : Cond.code yX0_nextStage cX0_nextStage 1 (some .int) ∈ WA := wi_3 (List.mem_of_getElem? (i := 21) rfl)
theorem mw_94 : Cond.methodLink RX0 108 yX0_gearsMayGo ∈ WA := wi_3 (List.mem_of_getElem? (i := 22) rfl)
theorem mw_95 : Cond.instanceMethod yX0_gearsMayGo ∈ WA := wi_3 (List.mem_of_getElem? (i := 23) rfl)
theorem mw_96 : Cond.selects RX0 yX0_gearsMayGo yX0_gearsMayGo ∈ WA := wi_4 (List.mem_of_getElem? (i := 0) rfl)
theorem mw_97 : Cond.code yX0_come cX0_come 2 none ∈ WA := wi_4 (List.mem_of_getElem? (i := 1) rfl)
theorem mw_98 : Cond.code yJ9_floorMod_7cf53 cJ9_floorMod_7cf53 3 (some .int) ∈ WA := wi_4 (List.mem_of_getElem? (i := 2) rfl)
theorem mw_99 : Cond.code yX1_add cX1_add 5 none ∈ WA := wi_4 (List.mem_of_getElem? (i := 3) rfl)
theorem mw_100 : Cond.fieldLink RX1 15 "LandingGears$Log" "count" "I" ∈ WA := wi_4 (List.mem_of_getElem? (i := 4) rfl)
theorem mw_101 : Cond.fieldLink RX1 9 "LandingGears$Log" "numbers" "[I" ∈ WA := wi_4 (List.mem_of_getElem? (i := 5) rfl)
theorem mw_102 : Cond.methodLink RX1 19 yJ9_floorMod_7cf53 ∈ WA := wi_4 (List.mem_of_getElem? (i := 6) rfl)
theorem mw_103 : Cond.static yJ9_floorMod_7cf53 ∈ WA := wi_4 (List.mem_of_getElem? (i := 7) rfl)
theorem mw_104 : Cond.initialized RJ9 ∈ WA := wi_4 (List.mem_of_getElem? (i := 8) rfl)
theorem mw_105 : Cond.code yX6_has cX6_has 2 (some .boolean) ∈ WA := wi_4 (List.mem_of_getElem? (i := 9) rfl)
theorem mw_106 : Cond.code yX5_count cX5_count 4 none ∈ WA := wi_4 (List.mem_of_getElem? (i := 10) rfl)
theorem mw_107 : Cond.methodLink RX5 22 Lib.Math.min.name ∈ WA := wi_4 (List.mem_of_getElem? (i := 11) rfl)
theorem mw_108 : Cond.static yX6_has ∈ WA := wi_4 (List.mem_of_getElem? (i := 12) rfl)
theorem mw_109 : Cond.code yX4_someInvalid cX4_someInvalid 2 (some .boolean) ∈ WA := wi_4 (List.mem_of_getElem? (i := 13) rfl)
theorem mw_110 : Cond.code yX5_causeOfPower cX5_causeOfPower 4 (some .int) ∈ WA := wi_4 (List.mem_of_getElem? (i := 14) rfl)
theorem mw_111 : Cond.methodLink RX5 48 yX4_isSeen ∈ WA := wi_4 (List.mem_of_getElem? (i := 15) rfl)
theorem mw_112 : Cond.code yX5_causeOfDoors cX5_causeOfDoors 2 (some .int) ∈ WA := wi_4 (List.mem_of_getElem? (i := 16) rfl)
theorem mw_113 : Cond.methodLink RX5 52 yX4_allSeen ∈ WA := wi_4 (List.mem_of_getElem? (i := 17) rfl)
theorem mw_114 : Cond.code yX5_causeOfGears cX5_causeOfGears 3 (some .int) ∈ WA := wi_4 (List.mem_of_getElem? (i := 18) rfl)
theorem mw_115 : Cond.methodLink RX5 55 yX4_someSeen ∈ WA := wi_4 (List.mem_of_getElem? (i := 19) rfl)
theorem mw_116 : Cond.methodLink RX5 32 yX4_someInvalid ∈ WA := wi_4 (List.mem_of_getElem? (i := 20) rfl)
theorem mw_117 : Cond.instanceMethod yX4_someInvalid ∈ WA := wi_4 (List.mem_of_getElem? (i := 21) rfl)
theorem mw_118 : Cond.selects RX4 yX4_someInvalid yX4_someInvalid ∈ WA := wi_4 (List.mem_of_getElem? (i := 22) rfl)
theorem mw_119 : Cond.methodLink RX5 38 yX5_causeOfPower ∈ WA := wi_4 (List.mem_of_getElem? (i := 23) rfl)
theorem mw_120 : Cond.instanceMethod yX5_causeOfPower ∈ WA := wi_5 (List.mem_of_getElem? (i := 0) rfl)
theorem mw_121 : Cond.selects RX5 yX5_causeOfPower yX5_causeOfPower ∈ WA := wi_5 (List.mem_of_getElem? (i := 1) rfl)
theorem mw_122 : Cond.methodLink RX5 42 yX5_causeOfDoors ∈ WA := wi_5 (List.mem_of_getElem? (i := 2) rfl)
theorem mw_123 : Cond.instanceMethod yX5_causeOfDoors ∈ WA := wi_5 (List.mem_of_getElem? (i := 3) rfl)
theorem mw_124 : Cond.selects RX5 yX5_causeOfDoors yX5_causeOfDoors ∈ WA := wi_5 (List.mem_of_getElem? (i := 4) rfl)
theorem mw_125 : Cond.methodLink RX5 45 yX5_causeOfGears ∈ WA := wi_5 (List.mem_of_getElem? (i := 5) rfl)
theorem mw_126 : Cond.instanceMethod yX5_causeOfGears ∈ WA := wi_5 (List.mem_of_getElem? (i := 6) rfl)
theorem mw_127 : Cond.selects RX5 yX5_causeOfGears yX5_causeOfGears ∈ WA := wi_5 (List.mem_of_getElem? (i := 7) rfl)
theorem mw_128 : Cond.code yX5_firstCause cX5_firstCause 3 (some .int) ∈ WA := wi_5 (List.mem_of_getElem? (i := 8) rfl)
theorem mw_129 : Cond.methodLink RX0 77 yX4_take ∈ WA := wi_5 (List.mem_of_getElem? (i := 9) rfl)
theorem mw_130 : Cond.instanceMethod yX4_take ∈ WA := wi_5 (List.mem_of_getElem? (i := 10) rfl)
theorem mw_131 : Cond.selects RX4 yX4_take yX4_take ∈ WA := wi_5 (List.mem_of_getElem? (i := 11) rfl)
theorem mw_132 : Cond.methodLink RX0 80 yX0_turn ∈ WA := wi_5 (List.mem_of_getElem? (i := 12) rfl)
theorem mw_133 : Cond.instanceMethod yX0_turn ∈ WA := wi_5 (List.mem_of_getElem? (i := 13) rfl)
theorem mw_134 : Cond.selects RX0 yX0_turn yX0_turn ∈ WA := wi_5 (List.mem_of_getElem? (i := 14) rfl)
theorem mw_135 : Cond.methodLink RX0 83 yX0_nextStage ∈ WA := wi_5 (List.mem_of_getElem? (i := 15) rfl)
theorem mw_136 : Cond.instanceMethod yX0_nextStage ∈ WA := wi_5 (List.mem_of_getElem? (i := 16) rfl)
theorem mw_137 : Cond.selects RX0 yX0_nextStage yX0_nextStage ∈ WA := wi_5 (List.mem_of_getElem? (i := 17) rfl)
theorem mw_138 : Cond.methodLink RX0 86 yX0_come ∈ WA := wi_5 (List.mem_of_getElem? (i := 18) rfl)
theorem mw_139 : Cond.instanceMethod yX0_come ∈ WA := wi_5 (List.mem_of_getElem? (i := 19) rfl)
theorem mw_140 : Cond.selects RX0 yX0_come yX0_come ∈ WA := wi_5 (List.mem_of_getElem? (i := 20) rfl)
theorem mw_141 : Cond.methodLink RX0 90 yX1_add ∈ WA := wi_5 (List.mem_of_getElem? (i := 21) rfl)
theorem mw_142 : Cond.instanceMethod yX1_add ∈ WA := wi_5 (List.mem_of_getElem? (i := 22) rfl)
theorem mw_143 : Cond.selects RX1 yX1_add yX1_add ∈ WA := wi_5 (List.mem_of_getElem? (i := 23) rfl)
theorem mw_144 : Cond.initialized RX1 ∈ WA := wi_6 (List.mem_of_getElem? (i := 0) rfl)
theorem mw_145 : Cond.methodLink RX0 96 yX5_count ∈ WA := wi_6 (List.mem_of_getElem? (i := 1) rfl)
theorem mw_146 : Cond.instanceMethod yX5_count ∈ WA := wi_6 (List.mem_of_getElem? (i := 2) rfl)
theorem mw_147 : Cond.selects RX5 yX5_count yX5_count ∈ WA := wi_6 (List.mem_of_getElem? (i := 3) rfl)
theorem mw_148 : Cond.methodLink RX0 100 yX5_firstCause ∈ WA := wi_6 (List.mem_of_getElem? (i := 4) rfl)
theorem mw_149 : Cond.instanceMethod yX5_firstCause ∈ WA := wi_6 (List.mem_of_getElem? (i := 5) rfl)
theorem mw_150 : Cond.selects RX5 yX5_firstCause yX5_firstCause ∈ WA := wi_6 (List.mem_of_getElem? (i := 6) rfl)
theorem mw_151 : Cond.code yX0_act cX0_act 6 none ∈ WA := wi_6 (List.mem_of_getElem? (i := 7) rfl)
theorem mw_152 : Cond.code yX1_init cX1_init 1 none ∈ WA := wi_6 (List.mem_of_getElem? (i := 8) rfl)
theorem mw_153 : Cond.methodLink RX1 3 objectInit ∈ WA := wi_6 (List.mem_of_getElem? (i := 9) rfl)
theorem mw_154 : Cond.code yX1_number cX1_number 3 (some .int) ∈ WA := wi_6 (List.mem_of_getElem? (i := 10) rfl)
theorem mw_155 : Cond.code yX2_usableLength cX2_usableLength 1 (some .int) ∈ WA := wi_6 (List.mem_of_getElem? (i := 11) rfl)
theorem mw_156 : Cond.code yX2_init cX2_init 6 none ∈ WA := wi_6 (List.mem_of_getElem? (i := 12) rfl)
theorem mw_157 : Cond.methodLink RX2 3 objectInit ∈ WA := wi_6 (List.mem_of_getElem? (i := 13) rfl)
theorem mw_158 : Cond.fieldLink RX2 9 "LandingGears$Plant" "length" "[I" ∈ WA := wi_6 (List.mem_of_getElem? (i := 14) rfl)
theorem mw_159 : Cond.fieldLink RX2 15 "LandingGears$Plant" "place" "[I" ∈ WA := wi_6 (List.mem_of_getElem? (i := 15) rfl)
theorem mw_160 : Cond.fieldLink RX2 18 "LandingGears$Plant" "cylinderStuck" "[I" ∈ WA := wi_6 (List.mem_of_getElem? (i := 16) rfl)
theorem mw_161 : Cond.fieldLink RX2 21 "LandingGears$Plant" "pressure" "[I" ∈ WA := wi_6 (List.mem_of_getElem? (i := 17) rfl)
theorem mw_162 : Cond.fieldLink RX2 24 "LandingGears$Plant" "valveStuck" "[I" ∈ WA := wi_6 (List.mem_of_getElem? (i := 18) rfl)
theorem mw_163 : Cond.fieldLink RX2 31 "LandingGears$Plant" "handle" "I" ∈ WA := wi_6 (List.mem_of_getElem? (i := 19) rfl)
theorem mw_164 : Cond.fieldLink RX2 35 "LandingGears$Plant" "level" "I" ∈ WA := wi_6 (List.mem_of_getElem? (i := 20) rfl)
theorem mw_165 : Cond.fieldLink RX2 38 "LandingGears$Plant" "hold" "I" ∈ WA := wi_6 (List.mem_of_getElem? (i := 21) rfl)
theorem mw_166 : Cond.fieldLink RX2 41 "LandingGears$Plant" "switchStuck" "I" ∈ WA := wi_6 (List.mem_of_getElem? (i := 22) rfl)
theorem mw_167 : Cond.fieldLink RX2 44 "LandingGears$Plant" "ground" "I" ∈ WA := wi_6 (List.mem_of_getElem? (i := 23) rfl)
theorem mw_168 : Cond.fieldLink RX2 47 "LandingGears$Plant" "scrapes" "I" ∈ WA := wi_7 (List.mem_of_getElem? (i := 0) rfl)
theorem mw_169 : Cond.methodLink RX2 27 yX2_usableLength ∈ WA := wi_7 (List.mem_of_getElem? (i := 1) rfl)
theorem mw_170 : Cond.static yX2_usableLength ∈ WA := wi_7 (List.mem_of_getElem? (i := 2) rfl)
theorem mw_171 : Cond.initialized RX2 ∈ WA := wi_7 (List.mem_of_getElem? (i := 3) rfl)
theorem mw_172 : Cond.code yX2_greatestLength cX2_greatestLength 2 (some .int) ∈ WA := wi_7 (List.mem_of_getElem? (i := 4) rfl)
theorem mw_173 : Cond.methodLink RX2 50 Lib.Math.max.name ∈ WA := wi_7 (List.mem_of_getElem? (i := 5) rfl)
theorem mw_174 : Cond.static Lib.Math.max.name ∈ WA := wi_7 (List.mem_of_getElem? (i := 6) rfl)
theorem mw_175 : Cond.code Lib.Math.max.name Lib.Math.max.code 2 (some .int) ∈ WA := wi_7 (List.mem_of_getElem? (i := 7) rfl)
theorem mw_176 : Cond.code yX2_moveHandle cX2_moveHandle 3 (some .int) ∈ WA := wi_7 (List.mem_of_getElem? (i := 8) rfl)
theorem mw_177 : Cond.code yX2_moveSwitch cX2_moveSwitch 1 none ∈ WA := wi_7 (List.mem_of_getElem? (i := 9) rfl)
theorem mw_178 : Cond.methodLink RX2 70 Lib.Math.min.name ∈ WA := wi_7 (List.mem_of_getElem? (i := 10) rfl)
theorem mw_179 : Cond.code yX2_full cX2_full 2 (some .boolean) ∈ WA := wi_7 (List.mem_of_getElem? (i := 11) rfl)
theorem mw_180 : Cond.code yX2_fed cX2_fed 4 (some .boolean) ∈ WA := wi_7 (List.mem_of_getElem? (i := 12) rfl)
theorem mw_181 : Cond.code yX2_changePressure cX2_changePressure 3 none ∈ WA := wi_7 (List.mem_of_getElem? (i := 13) rfl)
theorem mw_182 : Cond.methodLink RX2 73 yX2_full ∈ WA := wi_7 (List.mem_of_getElem? (i := 14) rfl)
theorem mw_183 : Cond.instanceMethod yX2_full ∈ WA := wi_7 (List.mem_of_getElem? (i := 15) rfl)
theorem mw_184 : Cond.selects RX2 yX2_full yX2_full ∈ WA := wi_7 (List.mem_of_getElem? (i := 16) rfl)
theorem mw_185 : Cond.methodLink RX2 80 yX2_fed ∈ WA := wi_7 (List.mem_of_getElem? (i := 17) rfl)
theorem mw_186 : Cond.instanceMethod yX2_fed ∈ WA := wi_7 (List.mem_of_getElem? (i := 18) rfl)
theorem mw_187 : Cond.selects RX2 yX2_fed yX2_fed ∈ WA := wi_7 (List.mem_of_getElem? (i := 19) rfl)
theorem mw_188 : Cond.methodLink RX2 84 yX2_changePressure ∈ WA := wi_7 (List.mem_of_getElem? (i := 20) rfl)
theorem mw_189 : Cond.instanceMethod yX2_changePressure ∈ WA := wi_7 (List.mem_of_getElem? (i := 21) rfl)
theorem mw_190 : Cond.selects RX2 yX2_changePressure yX2_changePressure ∈ WA := wi_7 (List.mem_of_getElem? (i := 22) rfl)
theorem mw_191 : Cond.code yX2_movePressures cX2_movePressures 4 none ∈ WA := wi_7 (List.mem_of_getElem? (i := 23) rfl)
theorem mw_192 : Cond.code yX2_push cX2_push 3 (some .int) ∈ WA := wi_8 (List.mem_of_getElem? (i := 0) rfl)
theorem mw_193 : Cond.code yX2_shift cX2_shift 4 (some .boolean) ∈ WA := wi_8 (List.mem_of_getElem? (i := 1) rfl)
theorem mw_194 : Cond.methodLink RX2 56 yX2_moveSwitch ∈ WA := wi_8 (List.mem_of_getElem? (i := 2) rfl)
theorem mw_195 : Cond.instanceMethod yX2_moveSwitch ∈ WA := wi_8 (List.mem_of_getElem? (i := 3) rfl)
theorem mw_196 : Cond.selects RX2 yX2_moveSwitch yX2_moveSwitch ∈ WA := wi_8 (List.mem_of_getElem? (i := 4) rfl)
theorem mw_197 : Cond.methodLink RX2 59 yX2_movePressures ∈ WA := wi_8 (List.mem_of_getElem? (i := 5) rfl)
theorem mw_198 : Cond.instanceMethod yX2_movePressures ∈ WA := wi_8 (List.mem_of_getElem? (i := 6) rfl)
theorem mw_199 : Cond.selects RX2 yX2_movePressures yX2_movePressures ∈ WA := wi_8 (List.mem_of_getElem? (i := 7) rfl)
theorem mw_200 : Cond.methodLink RX2 63 yX2_push ∈ WA := wi_8 (List.mem_of_getElem? (i := 8) rfl)
theorem mw_201 : Cond.instanceMethod yX2_push ∈ WA := wi_8 (List.mem_of_getElem? (i := 9) rfl)
theorem mw_202 : Cond.selects RX2 yX2_push yX2_push ∈ WA := wi_8 (List.mem_of_getElem? (i := 10) rfl)
theorem mw_203 : Cond.methodLink RX2 66 yX2_shift ∈ WA := wi_8 (List.mem_of_getElem? (i := 11) rfl)
theorem mw_204 : Cond.instanceMethod yX2_shift ∈ WA := wi_8 (List.mem_of_getElem? (i := 12) rfl)
theorem mw_205 : Cond.selects RX2 yX2_shift yX2_shift ∈ WA := wi_8 (List.mem_of_getElem? (i := 13) rfl)
theorem mw_206 : Cond.code yX2_move cX2_move 3 none ∈ WA := wi_8 (List.mem_of_getElem? (i := 14) rfl)
theorem mw_207 : Cond.code yX3_init cX3_init 1 none ∈ WA := wi_8 (List.mem_of_getElem? (i := 15) rfl)
theorem mw_208 : Cond.methodLink RX3 3 objectInit ∈ WA := wi_8 (List.mem_of_getElem? (i := 16) rfl)
theorem mw_209 : Cond.code yX3_feel cX3_feel 4 none ∈ WA := wi_8 (List.mem_of_getElem? (i := 17) rfl)
theorem mw_210 : Cond.fieldLink RX3 18 "LandingGears$Plant" "handle" "I" ∈ WA := wi_8 (List.mem_of_getElem? (i := 18) rfl)
theorem mw_211 : Cond.fieldLink RX3 24 "LandingGears$Plant" "level" "I" ∈ WA := wi_8 (List.mem_of_getElem? (i := 19) rfl)
theorem mw_212 : Cond.fieldLink RX3 31 "LandingGears$Plant" "pressure" "[I" ∈ WA := wi_8 (List.mem_of_getElem? (i := 20) rfl)
theorem mw_213 : Cond.fieldLink RX3 34 "LandingGears$Plant" "place" "[I" ∈ WA := wi_8 (List.mem_of_getElem? (i := 21) rfl)
theorem mw_214 : Cond.fieldLink RX3 37 "LandingGears$Plant" "length" "[I" ∈ WA := wi_8 (List.mem_of_getElem? (i := 22) rfl)
theorem mw_215 : Cond.fieldLink RX3 40 "LandingGears$Plant" "ground" "I" ∈ WA := wi_8 (List.mem_of_getElem? (i := 23) rfl)
theorem mw_216 : Cond.methodLink RX6 1 objectInit ∈ WA := wi_9 (List.mem_of_getElem? (i := 0) rfl)
theorem mw_217 : Cond.classLink RX6 7 RX2 ∈ WA := wi_9 (List.mem_of_getElem? (i := 1) rfl)
theorem mw_218 : Cond.instantiable RX2 11 ∈ WA := wi_9 (List.mem_of_getElem? (i := 2) rfl)
theorem mw_219 : Cond.fieldLink RX6 12 "LandingGears" "works" "LLandingGears$Plant;" ∈ WA := wi_9 (List.mem_of_getElem? (i := 3) rfl)
theorem mw_220 : Cond.classLink RX6 18 RX3 ∈ WA := wi_9 (List.mem_of_getElem? (i := 4) rfl)
theorem mw_221 : Cond.instantiable RX3 2 ∈ WA := wi_9 (List.mem_of_getElem? (i := 5) rfl)
theorem mw_222 : Cond.fieldLink RX6 21 "LandingGears" "sensors" "LLandingGears$Sensors;" ∈ WA := wi_9 (List.mem_of_getElem? (i := 6) rfl)
theorem mw_223 : Cond.classLink RX6 29 RX0 ∈ WA := wi_9 (List.mem_of_getElem? (i := 7) rfl)
theorem mw_224 : Cond.fieldLink RX6 31 "LandingGears" "modules" "[LLandingGears$ControlModule;" ∈ WA := wi_9 (List.mem_of_getElem? (i := 8) rfl)
theorem mw_225 : Cond.instantiable RX0 9 ∈ WA := wi_9 (List.mem_of_getElem? (i := 9) rfl)
theorem mw_226 : Cond.classLink RX6 38 RX1 ∈ WA := wi_9 (List.mem_of_getElem? (i := 10) rfl)
theorem mw_227 : Cond.instantiable RX1 2 ∈ WA := wi_9 (List.mem_of_getElem? (i := 11) rfl)
theorem mw_228 : Cond.fieldLink RX6 41 "LandingGears" "rows" "LLandingGears$Log;" ∈ WA := wi_9 (List.mem_of_getElem? (i := 12) rfl)
theorem mw_229 : Cond.fieldLink RX6 45 "LandingGears" "ticks" "I" ∈ WA := wi_9 (List.mem_of_getElem? (i := 13) rfl)
theorem mw_230 : Cond.fieldLink RX6 49 "LandingGears" "lit" "I" ∈ WA := wi_9 (List.mem_of_getElem? (i := 14) rfl)
theorem mw_231 : Cond.fieldLink RX6 52 "LandingGears" "clashed" "Z" ∈ WA := wi_9 (List.mem_of_getElem? (i := 15) rfl)
theorem mw_232 : Cond.methodLink RX6 9 yX2_init ∈ WA := wi_9 (List.mem_of_getElem? (i := 16) rfl)
theorem mw_233 : Cond.instanceMethod yX2_init ∈ WA := wi_9 (List.mem_of_getElem? (i := 17) rfl)
theorem mw_234 : Cond.methodLink RX6 20 yX3_init ∈ WA := wi_9 (List.mem_of_getElem? (i := 18) rfl)
theorem mw_235 : Cond.instanceMethod yX3_init ∈ WA := wi_9 (List.mem_of_getElem? (i := 19) rfl)
theorem mw_236 : Cond.methodLink RX6 25 yX3_feel ∈ WA := wi_9 (List.mem_of_getElem? (i := 20) rfl)
theorem mw_237 : Cond.instanceMethod yX3_feel ∈ WA := wi_9 (List.mem_of_getElem? (i := 21) rfl)
theorem mw_238 : Cond.selects RX3 yX3_feel yX3_feel ∈ WA := wi_9 (List.mem_of_getElem? (i := 22) rfl)
theorem mw_239 : Cond.methodLink RX6 35 yX0_init ∈ WA := wi_9 (List.mem_of_getElem? (i := 23) rfl)
theorem mw_240 : Cond.instanceMethod yX0_init ∈ WA := wi_10 (List.mem_of_getElem? (i := 0) rfl)
theorem mw_241 : Cond.methodLink RX6 40 yX1_init ∈ WA := wi_10 (List.mem_of_getElem? (i := 1) rfl)
theorem mw_242 : Cond.instanceMethod yX1_init ∈ WA := wi_10 (List.mem_of_getElem? (i := 2) rfl)
theorem mw_243 : Cond.code yX6_init cX6_init 6 none ∈ WA := wi_10 (List.mem_of_getElem? (i := 3) rfl)
theorem mw_244 : Cond.code yX6_handle cX6_handle 2 (some .int) ∈ WA := wi_10 (List.mem_of_getElem? (i := 4) rfl)
theorem mw_245 : Cond.methodLink RX6 56 yX6_outside ∈ WA := wi_10 (List.mem_of_getElem? (i := 5) rfl)
theorem mw_246 : Cond.methodLink RX6 60 yX2_moveHandle ∈ WA := wi_10 (List.mem_of_getElem? (i := 6) rfl)
theorem mw_247 : Cond.instanceMethod yX2_moveHandle ∈ WA := wi_10 (List.mem_of_getElem? (i := 7) rfl)
theorem mw_248 : Cond.selects RX2 yX2_moveHandle yX2_moveHandle ∈ WA := wi_10 (List.mem_of_getElem? (i := 8) rfl)
theorem mw_249 : Cond.code yX6_ground cX6_ground 3 (some .int) ∈ WA := wi_10 (List.mem_of_getElem? (i := 9) rfl)
theorem mw_250 : Cond.fieldLink RX6 64 "LandingGears$Plant" "ground" "I" ∈ WA := wi_10 (List.mem_of_getElem? (i := 10) rfl)
theorem mw_251 : Cond.code yX6_exchange cX6_exchange 4 (some .int) ∈ WA := wi_10 (List.mem_of_getElem? (i := 11) rfl)
theorem mw_252 : Cond.code yX6_channel cX6_channel 4 (some .int) ∈ WA := wi_10 (List.mem_of_getElem? (i := 12) rfl)
theorem mw_253 : Cond.fieldLink RX6 67 "LandingGears$Sensors" "faults" "[I" ∈ WA := wi_10 (List.mem_of_getElem? (i := 13) rfl)
theorem mw_254 : Cond.methodLink RX6 71 yX6_exchange ∈ WA := wi_10 (List.mem_of_getElem? (i := 14) rfl)
theorem mw_255 : Cond.static yX6_exchange ∈ WA := wi_10 (List.mem_of_getElem? (i := 15) rfl)
theorem mw_256 : Cond.code yX6_cylinder cX6_cylinder 3 (some .int) ∈ WA := wi_10 (List.mem_of_getElem? (i := 16) rfl)
theorem mw_257 : Cond.fieldLink RX6 75 "LandingGears$Plant" "cylinderStuck" "[I" ∈ WA := wi_10 (List.mem_of_getElem? (i := 17) rfl)
theorem mw_258 : Cond.code yX6_valve cX6_valve 3 (some .int) ∈ WA := wi_10 (List.mem_of_getElem? (i := 18) rfl)
theorem mw_259 : Cond.fieldLink RX6 78 "LandingGears$Plant" "valveStuck" "[I" ∈ WA := wi_10 (List.mem_of_getElem? (i := 19) rfl)
theorem mw_260 : Cond.code yX6_stick cX6_stick 3 (some .int) ∈ WA := wi_10 (List.mem_of_getElem? (i := 20) rfl)
theorem mw_261 : Cond.fieldLink RX6 81 "LandingGears$Plant" "switchStuck" "I" ∈ WA := wi_10 (List.mem_of_getElem? (i := 21) rfl)
theorem mw_262 : Cond.code yX6_module cX6_module 4 (some .int) ∈ WA := wi_10 (List.mem_of_getElem? (i := 22) rfl)
theorem mw_263 : Cond.fieldLink RX6 84 "LandingGears$ControlModule" "dead" "I" ∈ WA := wi_10 (List.mem_of_getElem? (i := 23) rfl)
theorem mw_264 : Cond.code yX6_ordered cX6_ordered 3 (some .int) ∈ WA := wi_11 (List.mem_of_getElem? (i := 0) rfl)
theorem mw_265 : Cond.methodLink RX6 159 yX0_orders ∈ WA := wi_11 (List.mem_of_getElem? (i := 1) rfl)
theorem mw_266 : Cond.code yX6_both cX6_both 3 (some .boolean) ∈ WA := wi_11 (List.mem_of_getElem? (i := 2) rfl)
theorem mw_267 : Cond.methodLink RX6 165 yX6_has ∈ WA := wi_11 (List.mem_of_getElem? (i := 3) rfl)
theorem mw_268 : Cond.methodLink RX6 112 yX6_ordered ∈ WA := wi_11 (List.mem_of_getElem? (i := 4) rfl)
theorem mw_269 : Cond.instanceMethod yX6_ordered ∈ WA := wi_11 (List.mem_of_getElem? (i := 5) rfl)
theorem mw_270 : Cond.selects RX6 yX6_ordered yX6_ordered ∈ WA := wi_11 (List.mem_of_getElem? (i := 6) rfl)
theorem mw_271 : Cond.methodLink RX6 144 yX6_both ∈ WA := wi_11 (List.mem_of_getElem? (i := 7) rfl)
theorem mw_272 : Cond.static yX6_both ∈ WA := wi_11 (List.mem_of_getElem? (i := 8) rfl)
theorem mw_273 : Cond.methodLink RX6 148 yX2_move ∈ WA := wi_11 (List.mem_of_getElem? (i := 9) rfl)
theorem mw_274 : Cond.instanceMethod yX2_move ∈ WA := wi_11 (List.mem_of_getElem? (i := 10) rfl)
theorem mw_275 : Cond.selects RX2 yX2_move yX2_move ∈ WA := wi_11 (List.mem_of_getElem? (i := 11) rfl)
theorem mw_276 : Cond.methodLink RX6 152 yX0_act ∈ WA := wi_11 (List.mem_of_getElem? (i := 12) rfl)
theorem mw_277 : Cond.instanceMethod yX0_act ∈ WA := wi_11 (List.mem_of_getElem? (i := 13) rfl)
theorem mw_278 : Cond.selects RX0 yX0_act yX0_act ∈ WA := wi_11 (List.mem_of_getElem? (i := 14) rfl)
theorem mw_279 : Cond.methodLink RX6 156 yX0_shows ∈ WA := wi_11 (List.mem_of_getElem? (i := 15) rfl)
theorem mw_280 : Cond.instanceMethod yX0_shows ∈ WA := wi_11 (List.mem_of_getElem? (i := 16) rfl)
theorem mw_281 : Cond.selects RX0 yX0_shows yX0_shows ∈ WA := wi_11 (List.mem_of_getElem? (i := 17) rfl)
theorem mw_282 : Cond.code yX6_tick cX6_tick 4 none ∈ WA := wi_11 (List.mem_of_getElem? (i := 18) rfl)
theorem mw_283 : Cond.methodLink RX6 87 yX6_tick ∈ WA := wi_11 (List.mem_of_getElem? (i := 19) rfl)
theorem mw_284 : Cond.instanceMethod yX6_tick ∈ WA := wi_11 (List.mem_of_getElem? (i := 20) rfl)
theorem mw_285 : Cond.selects RX6 yX6_tick yX6_tick ∈ WA := wi_11 (List.mem_of_getElem? (i := 21) rfl)
theorem mw_286 : Cond.code yX6_run cX6_run 3 (some .int) ∈ WA := wi_11 (List.mem_of_getElem? (i := 22) rfl)
theorem mw_287 : Cond.code yX6_unsettled cX6_unsettled 3 (some .boolean) ∈ WA := wi_11 (List.mem_of_getElem? (i := 23) rfl)
theorem mw_288 : Cond.methodLink RX6 162 yX0_underWay ∈ WA := wi_12 (List.mem_of_getElem? (i := 0) rfl)
theorem mw_289 : Cond.instanceMethod yX0_underWay ∈ WA := wi_12 (List.mem_of_getElem? (i := 1) rfl)
theorem mw_290 : Cond.selects RX0 yX0_underWay yX0_underWay ∈ WA := wi_12 (List.mem_of_getElem? (i := 2) rfl)
theorem mw_291 : Cond.methodLink RX6 90 yX6_unsettled ∈ WA := wi_12 (List.mem_of_getElem? (i := 3) rfl)
theorem mw_292 : Cond.instanceMethod yX6_unsettled ∈ WA := wi_12 (List.mem_of_getElem? (i := 4) rfl)
theorem mw_293 : Cond.selects RX6 yX6_unsettled yX6_unsettled ∈ WA := wi_12 (List.mem_of_getElem? (i := 5) rfl)
theorem mw_294 : Cond.code yX6_settle cX6_settle 3 (some .int) ∈ WA := wi_12 (List.mem_of_getElem? (i := 6) rfl)
theorem mw_295 : Cond.fieldLink RX6 94 "LandingGears$Plant" "place" "[I" ∈ WA := wi_12 (List.mem_of_getElem? (i := 7) rfl)
theorem mw_296 : Cond.fieldLink RX6 97 "LandingGears$Plant" "pressure" "[I" ∈ WA := wi_12 (List.mem_of_getElem? (i := 8) rfl)
theorem mw_297 : Cond.fieldLink RX6 100 "LandingGears$Plant" "level" "I" ∈ WA := wi_12 (List.mem_of_getElem? (i := 9) rfl)
theorem mw_298 : Cond.fieldLink RX6 103 "LandingGears$Plant" "hold" "I" ∈ WA := wi_12 (List.mem_of_getElem? (i := 10) rfl)
theorem mw_299 : Cond.fieldLink RX6 106 "LandingGears$Plant" "handle" "I" ∈ WA := wi_12 (List.mem_of_getElem? (i := 11) rfl)
theorem mw_300 : Cond.fieldLink RX6 109 "LandingGears$Plant" "scrapes" "I" ∈ WA := wi_12 (List.mem_of_getElem? (i := 12) rfl)
theorem mw_301 : Cond.code yX6_plant cX6_plant 2 (some .int) ∈ WA := wi_12 (List.mem_of_getElem? (i := 13) rfl)
theorem mw_302 : Cond.code yX6_about cX6_about 3 (some .int) ∈ WA := wi_12 (List.mem_of_getElem? (i := 14) rfl)
theorem mw_303 : Cond.methodLink RX6 116 yX0_fact ∈ WA := wi_12 (List.mem_of_getElem? (i := 15) rfl)
theorem mw_304 : Cond.instanceMethod yX0_fact ∈ WA := wi_12 (List.mem_of_getElem? (i := 16) rfl)
theorem mw_305 : Cond.selects RX0 yX0_fact yX0_fact ∈ WA := wi_12 (List.mem_of_getElem? (i := 17) rfl)
theorem mw_306 : Cond.code yX6_sees cX6_sees 5 (some .int) ∈ WA := wi_12 (List.mem_of_getElem? (i := 18) rfl)
theorem mw_307 : Cond.fieldLink RX6 119 "LandingGears$ControlModule" "votes" "LLandingGears$Votes;" ∈ WA := wi_12 (List.mem_of_getElem? (i := 19) rfl)
theorem mw_308 : Cond.fieldLink RX6 123 "LandingGears$Votes" "seen" "[I" ∈ WA := wi_12 (List.mem_of_getElem? (i := 20) rfl)
theorem mw_309 : Cond.fieldLink RX6 128 "LandingGears$Votes" "in" "[I" ∈ WA := wi_12 (List.mem_of_getElem? (i := 21) rfl)
theorem mw_310 : Cond.code yX6_tells cX6_tells 3 (some .int) ∈ WA := wi_12 (List.mem_of_getElem? (i := 22) rfl)
theorem mw_311 : Cond.methodLink RX6 131 yX3_told ∈ WA := wi_12 (List.mem_of_getElem? (i := 23) rfl)
theorem mw_312 : Cond.code yX6_lights cX6_lights 1 (some .int) ∈ WA := wi_13 (List.mem_of_getElem? (i := 0) rfl)
theorem mw_313 : Cond.code yX6_log cX6_log 3 (some .int) ∈ WA := wi_13 (List.mem_of_getElem? (i := 1) rfl)
theorem mw_314 : Cond.methodLink RX6 135 yX1_number ∈ WA := wi_13 (List.mem_of_getElem? (i := 2) rfl)
theorem mw_315 : Cond.instanceMethod yX1_number ∈ WA := wi_13 (List.mem_of_getElem? (i := 3) rfl)
theorem mw_316 : Cond.selects RX1 yX1_number yX1_number ∈ WA := wi_13 (List.mem_of_getElem? (i := 4) rfl)
theorem mw_317 : Cond.code yX6_logged cX6_logged 1 (some .int) ∈ WA := wi_13 (List.mem_of_getElem? (i := 5) rfl)
theorem mw_318 : Cond.fieldLink RX6 138 "LandingGears$Log" "count" "I" ∈ WA := wi_13 (List.mem_of_getElem? (i := 6) rfl)
theorem mw_319 : Cond.code yX6_bound cX6_bound 1 (some .int) ∈ WA := wi_13 (List.mem_of_getElem? (i := 7) rfl)
theorem mw_320 : Cond.methodLink RX6 141 yX2_greatestLength ∈ WA := wi_13 (List.mem_of_getElem? (i := 8) rfl)
theorem mw_321 : Cond.instanceMethod yX2_greatestLength ∈ WA := wi_13 (List.mem_of_getElem? (i := 9) rfl)
theorem mw_322 : Cond.selects RX2 yX2_greatestLength yX2_greatestLength ∈ WA := wi_13 (List.mem_of_getElem? (i := 10) rfl)
theorem mw_323 : Cond.code yX6_safe cX6_safe 1 (some .boolean) ∈ WA := wi_13 (List.mem_of_getElem? (i := 11) rfl)
theorem mw_324 : Cond.code yX7_lengthOf cX7_lengthOf 1 (some .int) ∈ WA := wi_13 (List.mem_of_getElem? (i := 12) rfl)
theorem mw_325 : Cond.code yX7_sensor cX7_sensor 3 (some .int) ∈ WA := wi_13 (List.mem_of_getElem? (i := 13) rfl)
theorem mw_326 : Cond.fieldLink RX7 7 "LandingGearsModel" "handle" "I" ∈ WA := wi_13 (List.mem_of_getElem? (i := 14) rfl)
theorem mw_327 : Cond.fieldLink RX7 104 "LandingGearsModel" "level" "I" ∈ WA := wi_13 (List.mem_of_getElem? (i := 15) rfl)
theorem mw_328 : Cond.fieldLink RX7 19 "LandingGearsModel" "pressure" "[I" ∈ WA := wi_13 (List.mem_of_getElem? (i := 16) rfl)
theorem mw_329 : Cond.fieldLink RX7 29 "LandingGearsModel" "place" "[I" ∈ WA := wi_13 (List.mem_of_getElem? (i := 17) rfl)
theorem mw_330 : Cond.fieldLink RX7 26 "LandingGearsModel" "length" "[I" ∈ WA := wi_13 (List.mem_of_getElem? (i := 18) rfl)
theorem mw_331 : Cond.fieldLink RX7 13 "LandingGearsModel" "ground" "I" ∈ WA := wi_13 (List.mem_of_getElem? (i := 19) rfl)
theorem mw_332 : Cond.code yX7_feel cX7_feel 2 none ∈ WA := wi_13 (List.mem_of_getElem? (i := 20) rfl)
theorem mw_333 : Cond.fieldLink RX7 75 "LandingGearsModel" "truth" "[I" ∈ WA := wi_13 (List.mem_of_getElem? (i := 21) rfl)
theorem mw_334 : Cond.methodLink RX7 88 yX7_sensor ∈ WA := wi_13 (List.mem_of_getElem? (i := 22) rfl)
theorem mw_335 : Cond.instanceMethod yX7_sensor ∈ WA := wi_13 (List.mem_of_getElem? (i := 23) rfl)
theorem mw_336 : Cond.selects RX7 yX7_sensor yX7_sensor ∈ WA := wi_14 (List.mem_of_getElem? (i := 0) rfl)
theorem mw_337 : Cond.initialized RX7 ∈ WA := wi_14 (List.mem_of_getElem? (i := 1) rfl)
theorem mw_338 : Cond.methodLink RX7 1 objectInit ∈ WA := wi_14 (List.mem_of_getElem? (i := 2) rfl)
theorem mw_339 : Cond.fieldLink RX7 16 "LandingGearsModel" "lights" "I" ∈ WA := wi_14 (List.mem_of_getElem? (i := 3) rfl)
theorem mw_340 : Cond.fieldLink RX7 23 "LandingGearsModel" "valveStuck" "[I" ∈ WA := wi_14 (List.mem_of_getElem? (i := 4) rfl)
theorem mw_341 : Cond.fieldLink RX7 32 "LandingGearsModel" "cylinderStuck" "[I" ∈ WA := wi_14 (List.mem_of_getElem? (i := 5) rfl)
theorem mw_342 : Cond.fieldLink RX7 35 "LandingGearsModel" "fault" "[I" ∈ WA := wi_14 (List.mem_of_getElem? (i := 6) rfl)
theorem mw_343 : Cond.fieldLink RX7 38 "LandingGearsModel" "stage" "[I" ∈ WA := wi_14 (List.mem_of_getElem? (i := 7) rfl)
theorem mw_344 : Cond.fieldLink RX7 41 "LandingGearsModel" "age" "[I" ∈ WA := wi_14 (List.mem_of_getElem? (i := 8) rfl)
theorem mw_345 : Cond.fieldLink RX7 44 "LandingGearsModel" "goal" "[I" ∈ WA := wi_14 (List.mem_of_getElem? (i := 9) rfl)
theorem mw_346 : Cond.fieldLink RX7 47 "LandingGearsModel" "cause" "[I" ∈ WA := wi_14 (List.mem_of_getElem? (i := 10) rfl)
theorem mw_347 : Cond.arrayClass .boolean ∈ WA := wi_14 (List.mem_of_getElem? (i := 11) rfl)
theorem mw_348 : Cond.fieldLink RX7 50 "LandingGearsModel" "again" "[Z" ∈ WA := wi_14 (List.mem_of_getElem? (i := 12) rfl)
theorem mw_349 : Cond.fieldLink RX7 54 "LandingGearsModel" "dead" "[I" ∈ WA := wi_14 (List.mem_of_getElem? (i := 13) rfl)
theorem mw_350 : Cond.fieldLink RX7 57 "LandingGearsModel" "changed" "[I" ∈ WA := wi_14 (List.mem_of_getElem? (i := 14) rfl)
theorem mw_351 : Cond.fieldLink RX7 60 "LandingGearsModel" "ordered" "[I" ∈ WA := wi_14 (List.mem_of_getElem? (i := 15) rfl)
theorem mw_352 : Cond.fieldLink RX7 63 "LandingGearsModel" "idle" "[I" ∈ WA := wi_14 (List.mem_of_getElem? (i := 16) rfl)
theorem mw_353 : Cond.fieldLink RX7 66 "LandingGearsModel" "seen" "[I" ∈ WA := wi_14 (List.mem_of_getElem? (i := 17) rfl)
theorem mw_354 : Cond.fieldLink RX7 69 "LandingGearsModel" "channels" "[I" ∈ WA := wi_14 (List.mem_of_getElem? (i := 18) rfl)
theorem mw_355 : Cond.fieldLink RX7 72 "LandingGearsModel" "invalid" "[Z" ∈ WA := wi_14 (List.mem_of_getElem? (i := 19) rfl)
theorem mw_356 : Cond.fieldLink RX7 78 "LandingGearsModel" "log" "[I" ∈ WA := wi_14 (List.mem_of_getElem? (i := 20) rfl)
theorem mw_357 : Cond.methodLink RX7 81 yX7_lengthOf ∈ WA := wi_14 (List.mem_of_getElem? (i := 21) rfl)
theorem mw_358 : Cond.static yX7_lengthOf ∈ WA := wi_14 (List.mem_of_getElem? (i := 22) rfl)
theorem mw_359 : Cond.methodLink RX7 85 yX7_feel ∈ WA := wi_14 (List.mem_of_getElem? (i := 23) rfl)
theorem mw_360 : Cond.instanceMethod yX7_feel ∈ WA := wi_15 (List.mem_of_getElem? (i := 0) rfl)
theorem mw_361 : Cond.selects RX7 yX7_feel yX7_feel ∈ WA := wi_15 (List.mem_of_getElem? (i := 1) rfl)
theorem mw_362 : Cond.code yX7_init cX7_init 7 none ∈ WA := wi_15 (List.mem_of_getElem? (i := 2) rfl)
theorem mw_363 : Cond.code yX7_in cX7_in 3 (some .boolean) ∈ WA := wi_15 (List.mem_of_getElem? (i := 3) rfl)
theorem mw_364 : Cond.code yX7_handle cX7_handle 3 (some .int) ∈ WA := wi_15 (List.mem_of_getElem? (i := 4) rfl)
theorem mw_365 : Cond.fieldLink RX7 91 "LandingGearsModel" "thrown" "I" ∈ WA := wi_15 (List.mem_of_getElem? (i := 5) rfl)
theorem mw_366 : Cond.fieldLink RX7 98 "LandingGearsModel" "hold" "I" ∈ WA := wi_15 (List.mem_of_getElem? (i := 6) rfl)
theorem mw_367 : Cond.methodLink RX7 94 yX7_in ∈ WA := wi_15 (List.mem_of_getElem? (i := 7) rfl)
theorem mw_368 : Cond.static yX7_in ∈ WA := wi_15 (List.mem_of_getElem? (i := 8) rfl)
theorem mw_369 : Cond.code yX7_ground cX7_ground 3 (some .int) ∈ WA := wi_15 (List.mem_of_getElem? (i := 9) rfl)
theorem mw_370 : Cond.code yX7_channel cX7_channel 5 (some .int) ∈ WA := wi_15 (List.mem_of_getElem? (i := 10) rfl)
theorem mw_371 : Cond.code yX7_cylinder cX7_cylinder 4 (some .int) ∈ WA := wi_15 (List.mem_of_getElem? (i := 11) rfl)
theorem mw_372 : Cond.code yX7_valve cX7_valve 4 (some .int) ∈ WA := wi_15 (List.mem_of_getElem? (i := 12) rfl)
theorem mw_373 : Cond.code yX7_stick cX7_stick 3 (some .int) ∈ WA := wi_15 (List.mem_of_getElem? (i := 13) rfl)
theorem mw_374 : Cond.fieldLink RX7 101 "LandingGearsModel" "switchStuck" "I" ∈ WA := wi_15 (List.mem_of_getElem? (i := 14) rfl)
theorem mw_375 : Cond.code yX7_module cX7_module 4 (some .int) ∈ WA := wi_15 (List.mem_of_getElem? (i := 15) rfl)
theorem mw_376 : Cond.code yX7_tell cX7_tell 4 (some .int) ∈ WA := wi_15 (List.mem_of_getElem? (i := 16) rfl)
theorem mw_377 : Cond.code yX7_vote cX7_vote 7 none ∈ WA := wi_15 (List.mem_of_getElem? (i := 17) rfl)
theorem mw_378 : Cond.methodLink RX7 107 yX7_tell ∈ WA := wi_15 (List.mem_of_getElem? (i := 18) rfl)
theorem mw_379 : Cond.instanceMethod yX7_tell ∈ WA := wi_15 (List.mem_of_getElem? (i := 19) rfl)
theorem mw_380 : Cond.selects RX7 yX7_tell yX7_tell ∈ WA := wi_15 (List.mem_of_getElem? (i := 20) rfl)
theorem mw_381 : Cond.code yX7_all cX7_all 3 (some .boolean) ∈ WA := wi_15 (List.mem_of_getElem? (i := 21) rfl)
theorem mw_382 : Cond.code yX7_some cX7_some 3 (some .boolean) ∈ WA := wi_15 (List.mem_of_getElem? (i := 22) rfl)
theorem mw_383 : Cond.code yX7_orders cX7_orders 2 (some .int) ∈ WA := wi_15 (List.mem_of_getElem? (i := 23) rfl)
theorem mw_384 : Cond.code yX7_ordered cX7_ordered 1 (some .int) ∈ WA := wi_16 (List.mem_of_getElem? (i := 0) rfl)
theorem mw_385 : Cond.methodLink RX7 111 yX7_orders ∈ WA := wi_16 (List.mem_of_getElem? (i := 1) rfl)
theorem mw_386 : Cond.instanceMethod yX7_orders ∈ WA := wi_16 (List.mem_of_getElem? (i := 2) rfl)
theorem mw_387 : Cond.selects RX7 yX7_orders yX7_orders ∈ WA := wi_16 (List.mem_of_getElem? (i := 3) rfl)
theorem mw_388 : Cond.code yX7_note cX7_note 4 none ∈ WA := wi_16 (List.mem_of_getElem? (i := 4) rfl)
theorem mw_389 : Cond.fieldLink RX7 114 "LandingGearsModel" "logged" "I" ∈ WA := wi_16 (List.mem_of_getElem? (i := 5) rfl)
theorem mw_390 : Cond.fieldLink RX7 117 "LandingGearsModel" "ticks" "I" ∈ WA := wi_16 (List.mem_of_getElem? (i := 6) rfl)
theorem mw_391 : Cond.code yX7_come cX7_come 3 none ∈ WA := wi_16 (List.mem_of_getElem? (i := 7) rfl)
theorem mw_392 : Cond.methodLink RX7 120 yX7_note ∈ WA := wi_16 (List.mem_of_getElem? (i := 8) rfl)
theorem mw_393 : Cond.instanceMethod yX7_note ∈ WA := wi_16 (List.mem_of_getElem? (i := 9) rfl)
theorem mw_394 : Cond.selects RX7 yX7_note yX7_note ∈ WA := wi_16 (List.mem_of_getElem? (i := 10) rfl)
theorem mw_395 : Cond.code yX7_change cX7_change 3 none ∈ WA := wi_16 (List.mem_of_getElem? (i := 11) rfl)
theorem mw_396 : Cond.methodLink RX7 124 yX7_come ∈ WA := wi_16 (List.mem_of_getElem? (i := 12) rfl)
theorem mw_397 : Cond.instanceMethod yX7_come ∈ WA := wi_16 (List.mem_of_getElem? (i := 13) rfl)
theorem mw_398 : Cond.selects RX7 yX7_come yX7_come ∈ WA := wi_16 (List.mem_of_getElem? (i := 14) rfl)
theorem mw_399 : Cond.methodLink RX7 127 yX7_all ∈ WA := wi_16 (List.mem_of_getElem? (i := 15) rfl)
theorem mw_400 : Cond.instanceMethod yX7_all ∈ WA := wi_16 (List.mem_of_getElem? (i := 16) rfl)
theorem mw_401 : Cond.selects RX7 yX7_all yX7_all ∈ WA := wi_16 (List.mem_of_getElem? (i := 17) rfl)
theorem mw_402 : Cond.methodLink RX7 131 yX7_some ∈ WA := wi_16 (List.mem_of_getElem? (i := 18) rfl)
theorem mw_403 : Cond.instanceMethod yX7_some ∈ WA := wi_16 (List.mem_of_getElem? (i := 19) rfl)
theorem mw_404 : Cond.selects RX7 yX7_some yX7_some ∈ WA := wi_16 (List.mem_of_getElem? (i := 20) rfl)
theorem mw_405 : Cond.code yX7_advance cX7_advance 4 none ∈ WA := wi_16 (List.mem_of_getElem? (i := 21) rfl)
theorem mw_406 : Cond.code yX7_watch cX7_watch 6 (some .int) ∈ WA := wi_16 (List.mem_of_getElem? (i := 22) rfl)
theorem mw_407 : Cond.methodLink RX7 134 yX7_vote ∈ WA := wi_16 (List.mem_of_getElem? (i := 23) rfl)
theorem mw_408 : Cond.instanceMethod yX7_vote ∈ WA := wi_17 (List.mem_of_getElem? (i := 0) rfl)
theorem mw_409 : Cond.selects RX7 yX7_vote yX7_vote ∈ WA := wi_17 (List.mem_of_getElem? (i := 1) rfl)
theorem mw_410 : Cond.methodLink RX7 137 yX7_change ∈ WA := wi_17 (List.mem_of_getElem? (i := 2) rfl)
theorem mw_411 : Cond.instanceMethod yX7_change ∈ WA := wi_17 (List.mem_of_getElem? (i := 3) rfl)
theorem mw_412 : Cond.selects RX7 yX7_change yX7_change ∈ WA := wi_17 (List.mem_of_getElem? (i := 4) rfl)
theorem mw_413 : Cond.methodLink RX7 141 yX7_advance ∈ WA := wi_17 (List.mem_of_getElem? (i := 5) rfl)
theorem mw_414 : Cond.instanceMethod yX7_advance ∈ WA := wi_17 (List.mem_of_getElem? (i := 6) rfl)
theorem mw_415 : Cond.selects RX7 yX7_advance yX7_advance ∈ WA := wi_17 (List.mem_of_getElem? (i := 7) rfl)
theorem mw_416 : Cond.methodLink RX7 144 yX7_watch ∈ WA := wi_17 (List.mem_of_getElem? (i := 8) rfl)
theorem mw_417 : Cond.instanceMethod yX7_watch ∈ WA := wi_17 (List.mem_of_getElem? (i := 9) rfl)
theorem mw_418 : Cond.selects RX7 yX7_watch yX7_watch ∈ WA := wi_17 (List.mem_of_getElem? (i := 10) rfl)
theorem mw_419 : Cond.code yX7_act cX7_act 5 none ∈ WA := wi_17 (List.mem_of_getElem? (i := 11) rfl)
theorem mw_420 : Cond.code yX7_press cX7_press 4 none ∈ WA := wi_17 (List.mem_of_getElem? (i := 12) rfl)
theorem mw_421 : Cond.code yX7_move cX7_move 7 none ∈ WA := wi_17 (List.mem_of_getElem? (i := 13) rfl)
theorem mw_422 : Cond.fieldLink RX7 147 "LandingGearsModel" "scrapes" "I" ∈ WA := wi_17 (List.mem_of_getElem? (i := 14) rfl)
theorem mw_423 : Cond.fieldLink RX7 153 "LandingGearsModel" "both" "Z" ∈ WA := wi_17 (List.mem_of_getElem? (i := 15) rfl)
theorem mw_424 : Cond.methodLink RX7 150 yX7_ordered ∈ WA := wi_17 (List.mem_of_getElem? (i := 16) rfl)
theorem mw_425 : Cond.instanceMethod yX7_ordered ∈ WA := wi_17 (List.mem_of_getElem? (i := 17) rfl)
theorem mw_426 : Cond.selects RX7 yX7_ordered yX7_ordered ∈ WA := wi_17 (List.mem_of_getElem? (i := 18) rfl)
theorem mw_427 : Cond.methodLink RX7 157 yX7_press ∈ WA := wi_17 (List.mem_of_getElem? (i := 19) rfl)
theorem mw_428 : Cond.instanceMethod yX7_press ∈ WA := wi_17 (List.mem_of_getElem? (i := 20) rfl)
theorem mw_429 : Cond.selects RX7 yX7_press yX7_press ∈ WA := wi_17 (List.mem_of_getElem? (i := 21) rfl)
theorem mw_430 : Cond.methodLink RX7 161 yX7_move ∈ WA := wi_17 (List.mem_of_getElem? (i := 22) rfl)
theorem mw_431 : Cond.instanceMethod yX7_move ∈ WA := wi_17 (List.mem_of_getElem? (i := 23) rfl)
theorem mw_432 : Cond.selects RX7 yX7_move yX7_move ∈ WA := wi_18 (List.mem_of_getElem? (i := 0) rfl)
theorem mw_433 : Cond.methodLink RX7 165 yX7_act ∈ WA := wi_18 (List.mem_of_getElem? (i := 1) rfl)
theorem mw_434 : Cond.instanceMethod yX7_act ∈ WA := wi_18 (List.mem_of_getElem? (i := 2) rfl)
theorem mw_435 : Cond.selects RX7 yX7_act yX7_act ∈ WA := wi_18 (List.mem_of_getElem? (i := 3) rfl)
theorem mw_436 : Cond.code yX7_tick cX7_tick 5 none ∈ WA := wi_18 (List.mem_of_getElem? (i := 4) rfl)
theorem mw_437 : Cond.methodLink RX7 168 yX7_tick ∈ WA := wi_18 (List.mem_of_getElem? (i := 5) rfl)
theorem mw_438 : Cond.instanceMethod yX7_tick ∈ WA := wi_18 (List.mem_of_getElem? (i := 6) rfl)
theorem mw_439 : Cond.selects RX7 yX7_tick yX7_tick ∈ WA := wi_18 (List.mem_of_getElem? (i := 7) rfl)
theorem mw_440 : Cond.code yX7_run cX7_run 3 (some .int) ∈ WA := wi_18 (List.mem_of_getElem? (i := 8) rfl)
theorem mw_441 : Cond.code yX7_isBusy cX7_isBusy 2 (some .boolean) ∈ WA := wi_18 (List.mem_of_getElem? (i := 9) rfl)
theorem mw_442 : Cond.methodLink RX7 171 yX7_isBusy ∈ WA := wi_18 (List.mem_of_getElem? (i := 10) rfl)
theorem mw_443 : Cond.instanceMethod yX7_isBusy ∈ WA := wi_18 (List.mem_of_getElem? (i := 11) rfl)
theorem mw_444 : Cond.selects RX7 yX7_isBusy yX7_isBusy ∈ WA := wi_18 (List.mem_of_getElem? (i := 12) rfl)
theorem mw_445 : Cond.code yX7_settle cX7_settle 3 (some .int) ∈ WA := wi_18 (List.mem_of_getElem? (i := 13) rfl)
theorem mw_446 : Cond.code yX7_plant cX7_plant 2 (some .int) ∈ WA := wi_18 (List.mem_of_getElem? (i := 14) rfl)
theorem mw_447 : Cond.code yX7_about cX7_about 3 (some .int) ∈ WA := wi_18 (List.mem_of_getElem? (i := 15) rfl)
theorem mw_448 : Cond.code yX7_sees cX7_sees 4 (some .int) ∈ WA := wi_18 (List.mem_of_getElem? (i := 16) rfl)
theorem mw_449 : Cond.code yX7_tells cX7_tells 3 (some .int) ∈ WA := wi_18 (List.mem_of_getElem? (i := 17) rfl)
theorem mw_450 : Cond.code yX7_lights cX7_lights 1 (some .int) ∈ WA := wi_18 (List.mem_of_getElem? (i := 18) rfl)
theorem mw_451 : Cond.code yX7_log cX7_log 3 (some .int) ∈ WA := wi_18 (List.mem_of_getElem? (i := 19) rfl)
theorem mw_452 : Cond.code yX7_logged cX7_logged 1 (some .int) ∈ WA := wi_18 (List.mem_of_getElem? (i := 20) rfl)
theorem mw_453 : Cond.code yX7_bound cX7_bound 2 (some .int) ∈ WA := wi_18 (List.mem_of_getElem? (i := 21) rfl)
theorem mw_454 : Cond.code yX7_safe cX7_safe 1 (some .boolean) ∈ WA := wi_18 (List.mem_of_getElem? (i := 22) rfl)
theorem mw_455 : Cond.code yJ9_max_7cf53 cJ9_max_7cf53 2 (some .int) ∈ WA := wi_18 (List.mem_of_getElem? (i := 23) rfl)
theorem mw_456 : Cond.code yJ9_min_7cf53 cJ9_min_7cf53 2 (some .int) ∈ WA := wi_19 (List.mem_of_getElem? (i := 0) rfl)
theorem mw_457 : Cond.instantiable RX6 7 ∈ WA := wi_19 (List.mem_of_getElem? (i := 1) rfl)
theorem mw_458 : Cond.instantiable RX7 31 ∈ WA := wi_19 (List.mem_of_getElem? (i := 2) rfl)
theorem mw_459 : Cond.instanceMethod yX6_init ∈ WA := wi_19 (List.mem_of_getElem? (i := 3) rfl)
theorem mw_460 : Cond.instanceMethod yX7_init ∈ WA := wi_19 (List.mem_of_getElem? (i := 4) rfl)
theorem mw_461 : Cond.instanceMethod yX6_handle ∈ WA := wi_19 (List.mem_of_getElem? (i := 5) rfl)
theorem mw_462 : Cond.selects RX6 yX6_handle yX6_handle ∈ WA := wi_19 (List.mem_of_getElem? (i := 6) rfl)
theorem mw_463 : Cond.instanceMethod yX7_handle ∈ WA := wi_19 (List.mem_of_getElem? (i := 7) rfl)
theorem mw_464 : Cond.selects RX7 yX7_handle yX7_handle ∈ WA := wi_19 (List.mem_of_getElem? (i := 8) rfl)
theorem mw_465 : Cond.instanceMethod yX6_ground ∈ WA := wi_19 (List.mem_of_getElem? (i := 9) rfl)
theorem mw_466 : Cond.selects RX6 yX6_ground yX6_ground ∈ WA := wi_19 (List.mem_of_getElem? (i := 10) rfl)
theorem mw_467 : Cond.instanceMethod yX7_ground ∈ WA := wi_19 (List.mem_of_getElem? (i := 11) rfl)
theorem mw_468 : Cond.selects RX7 yX7_ground yX7_ground ∈ WA := wi_19 (List.mem_of_getElem? (i := 12) rfl)
theorem mw_469 : Cond.instanceMethod yX6_channel ∈ WA := wi_19 (List.mem_of_getElem? (i := 13) rfl)
theorem mw_470 : Cond.selects RX6 yX6_channel yX6_channel ∈ WA := wi_19 (List.mem_of_getElem? (i := 14) rfl)
theorem mw_471 : Cond.instanceMethod yX7_channel ∈ WA := wi_19 (List.mem_of_getElem? (i := 15) rfl)
theorem mw_472 : Cond.selects RX7 yX7_channel yX7_channel ∈ WA := wi_19 (List.mem_of_getElem? (i := 16) rfl)
theorem mw_473 : Cond.instanceMethod yX6_cylinder ∈ WA := wi_19 (List.mem_of_getElem? (i := 17) rfl)
theorem mw_474 : Cond.selects RX6 yX6_cylinder yX6_cylinder ∈ WA := wi_19 (List.mem_of_getElem? (i := 18) rfl)
theorem mw_475 : Cond.instanceMethod yX7_cylinder ∈ WA := wi_19 (List.mem_of_getElem? (i := 19) rfl)
theorem mw_476 : Cond.selects RX7 yX7_cylinder yX7_cylinder ∈ WA := wi_19 (List.mem_of_getElem? (i := 20) rfl)
theorem mw_477 : Cond.instanceMethod yX6_valve ∈ WA := wi_19 (List.mem_of_getElem? (i := 21) rfl)
theorem mw_478 : Cond.selects RX6 yX6_valve yX6_valve ∈ WA := wi_19 (List.mem_of_getElem? (i := 22) rfl)
theorem mw_479 : Cond.instanceMethod yX7_valve ∈ WA := wi_19 (List.mem_of_getElem? (i := 23) rfl)
theorem mw_480 : Cond.selects RX7 yX7_valve yX7_valve ∈ WA := wi_20 (List.mem_of_getElem? (i := 0) rfl)
theorem mw_481 : Cond.instanceMethod yX6_stick ∈ WA := wi_20 (List.mem_of_getElem? (i := 1) rfl)
theorem mw_482 : Cond.selects RX6 yX6_stick yX6_stick ∈ WA := wi_20 (List.mem_of_getElem? (i := 2) rfl)
theorem mw_483 : Cond.instanceMethod yX7_stick ∈ WA := wi_20 (List.mem_of_getElem? (i := 3) rfl)
theorem mw_484 : Cond.selects RX7 yX7_stick yX7_stick ∈ WA := wi_20 (List.mem_of_getElem? (i := 4) rfl)
theorem mw_485 : Cond.instanceMethod yX6_module ∈ WA := wi_20 (List.mem_of_getElem? (i := 5) rfl)
theorem mw_486 : Cond.selects RX6 yX6_module yX6_module ∈ WA := wi_20 (List.mem_of_getElem? (i := 6) rfl)
theorem mw_487 : Cond.instanceMethod yX7_module ∈ WA := wi_20 (List.mem_of_getElem? (i := 7) rfl)
theorem mw_488 : Cond.selects RX7 yX7_module yX7_module ∈ WA := wi_20 (List.mem_of_getElem? (i := 8) rfl)
theorem mw_489 : Cond.instanceMethod yX6_run ∈ WA := wi_20 (List.mem_of_getElem? (i := 9) rfl)
theorem mw_490 : Cond.selects RX6 yX6_run yX6_run ∈ WA := wi_20 (List.mem_of_getElem? (i := 10) rfl)
theorem mw_491 : Cond.instanceMethod yX7_run ∈ WA := wi_20 (List.mem_of_getElem? (i := 11) rfl)
theorem mw_492 : Cond.selects RX7 yX7_run yX7_run ∈ WA := wi_20 (List.mem_of_getElem? (i := 12) rfl)
theorem mw_493 : Cond.instanceMethod yX6_settle ∈ WA := wi_20 (List.mem_of_getElem? (i := 13) rfl)
theorem mw_494 : Cond.selects RX6 yX6_settle yX6_settle ∈ WA := wi_20 (List.mem_of_getElem? (i := 14) rfl)
theorem mw_495 : Cond.instanceMethod yX7_settle ∈ WA := wi_20 (List.mem_of_getElem? (i := 15) rfl)
theorem mw_496 : Cond.selects RX7 yX7_settle yX7_settle ∈ WA := wi_20 (List.mem_of_getElem? (i := 16) rfl)
theorem mw_497 : Cond.instanceMethod yX6_plant ∈ WA := wi_20 (List.mem_of_getElem? (i := 17) rfl)
theorem mw_498 : Cond.selects RX6 yX6_plant yX6_plant ∈ WA := wi_20 (List.mem_of_getElem? (i := 18) rfl)
theorem mw_499 : Cond.instanceMethod yX7_plant ∈ WA := wi_20 (List.mem_of_getElem? (i := 19) rfl)
theorem mw_500 : Cond.selects RX7 yX7_plant yX7_plant ∈ WA := wi_20 (List.mem_of_getElem? (i := 20) rfl)
theorem mw_501 : Cond.instanceMethod yX6_about ∈ WA := wi_20 (List.mem_of_getElem? (i := 21) rfl)
theorem mw_502 : Cond.selects RX6 yX6_about yX6_about ∈ WA := wi_20 (List.mem_of_getElem? (i := 22) rfl)
theorem mw_503 : Cond.instanceMethod yX7_about ∈ WA := wi_20 (List.mem_of_getElem? (i := 23) rfl)
theorem mw_504 : Cond.selects RX7 yX7_about yX7_about ∈ WA := wi_21 (List.mem_of_getElem? (i := 0) rfl)
theorem mw_505 : Cond.instanceMethod yX6_sees ∈ WA := wi_21 (List.mem_of_getElem? (i := 1) rfl)
theorem mw_506 : Cond.selects RX6 yX6_sees yX6_sees ∈ WA := wi_21 (List.mem_of_getElem? (i := 2) rfl)
theorem mw_507 : Cond.instanceMethod yX7_sees ∈ WA := wi_21 (List.mem_of_getElem? (i := 3) rfl)
theorem mw_508 : Cond.selects RX7 yX7_sees yX7_sees ∈ WA := wi_21 (List.mem_of_getElem? (i := 4) rfl)
theorem mw_509 : Cond.instanceMethod yX6_tells ∈ WA := wi_21 (List.mem_of_getElem? (i := 5) rfl)
theorem mw_510 : Cond.selects RX6 yX6_tells yX6_tells ∈ WA := wi_21 (List.mem_of_getElem? (i := 6) rfl)
theorem mw_511 : Cond.instanceMethod yX7_tells ∈ WA := wi_21 (List.mem_of_getElem? (i := 7) rfl)
theorem mw_512 : Cond.selects RX7 yX7_tells yX7_tells ∈ WA := wi_21 (List.mem_of_getElem? (i := 8) rfl)
theorem mw_513 : Cond.instanceMethod yX6_lights ∈ WA := wi_21 (List.mem_of_getElem? (i := 9) rfl)
theorem mw_514 : Cond.selects RX6 yX6_lights yX6_lights ∈ WA := wi_21 (List.mem_of_getElem? (i := 10) rfl)
theorem mw_515 : Cond.instanceMethod yX7_lights ∈ WA := wi_21 (List.mem_of_getElem? (i := 11) rfl)
theorem mw_516 : Cond.selects RX7 yX7_lights yX7_lights ∈ WA := wi_21 (List.mem_of_getElem? (i := 12) rfl)
theorem mw_517 : Cond.instanceMethod yX6_log ∈ WA := wi_21 (List.mem_of_getElem? (i := 13) rfl)
theorem mw_518 : Cond.selects RX6 yX6_log yX6_log ∈ WA := wi_21 (List.mem_of_getElem? (i := 14) rfl)
theorem mw_519 : Cond.instanceMethod yX7_log ∈ WA := wi_21 (List.mem_of_getElem? (i := 15) rfl)
theorem mw_520 : Cond.selects RX7 yX7_log yX7_log ∈ WA := wi_21 (List.mem_of_getElem? (i := 16) rfl)
theorem mw_521 : Cond.instanceMethod yX6_logged ∈ WA := wi_21 (List.mem_of_getElem? (i := 17) rfl)
theorem mw_522 : Cond.selects RX6 yX6_logged yX6_logged ∈ WA := wi_21 (List.mem_of_getElem? (i := 18) rfl)
theorem mw_523 : Cond.instanceMethod yX7_logged ∈ WA := wi_21 (List.mem_of_getElem? (i := 19) rfl)
theorem mw_524 : Cond.selects RX7 yX7_logged yX7_logged ∈ WA := wi_21 (List.mem_of_getElem? (i := 20) rfl)
theorem mw_525 : Cond.instanceMethod yX6_bound ∈ WA := wi_21 (List.mem_of_getElem? (i := 21) rfl)
theorem mw_526 : Cond.selects RX6 yX6_bound yX6_bound ∈ WA := wi_21 (List.mem_of_getElem? (i := 22) rfl)
theorem mw_527 : Cond.instanceMethod yX7_bound ∈ WA := wi_21 (List.mem_of_getElem? (i := 23) rfl)
theorem mw_528 : Cond.selects RX7 yX7_bound yX7_bound ∈ WA := wi_22 (List.mem_of_getElem? (i := 0) rfl)
theorem mw_529 : Cond.instanceMethod yX6_safe ∈ WA := wi_22 (List.mem_of_getElem? (i := 1) rfl)
theorem mw_530 : Cond.selects RX6 yX6_safe yX6_safe ∈ WA := wi_22 (List.mem_of_getElem? (i := 2) rfl)
theorem mw_531 : Cond.instanceMethod yX7_safe ∈ WA := wi_22 (List.mem_of_getElem? (i := 3) rfl)
theorem mw_532 : Cond.selects RX7 yX7_safe yX7_safe ∈ WA := wi_22 (List.mem_of_getElem? (i := 4) rfl)
end
section
theorem dJ6_bitCount_0f7a4_0 : decode cJ6_bitCount_0f7a4 0 = .ok (.iload_n 0, 1) := by decide +kernel
theorem dJ6_bitCount_0f7a4_1 : decode cJ6_bitCount_0f7a4 1 = .ok (.iload_n 0, 1) := by decide +kernel
theorem dJ6_bitCount_0f7a4_2 : decode cJ6_bitCount_0f7a4 2 = .ok (.iconst 1, 1) := by decide +kernel
theorem dJ6_bitCount_0f7a4_3 : decode cJ6_bitCount_0f7a4 3 = .ok (.iushr, 1) := by decide +kernel
theorem dJ6_bitCount_0f7a4_4 : decode cJ6_bitCount_0f7a4 4 = .ok (.ldc_w 265, 3) := by decide +kernel
theorem dJ6_bitCount_0f7a4_7 : decode cJ6_bitCount_0f7a4 7 = .ok (.iand, 1) := by decide +kernel
theorem dJ6_bitCount_0f7a4_8 : decode cJ6_bitCount_0f7a4 8 = .ok (.isub, 1) := by decide +kernel
theorem dJ6_bitCount_0f7a4_9 : decode cJ6_bitCount_0f7a4 9 = .ok (.istore_n 0, 1) := by decide +kernel
theorem dJ6_bitCount_0f7a4_10 : decode cJ6_bitCount_0f7a4 10 = .ok (.iload_n 0, 1) := by decide +kernel
theorem dJ6_bitCount_0f7a4_11 : decode cJ6_bitCount_0f7a4 11 = .ok (.ldc_w 266, 3) := by decide +kernel
theorem dJ6_bitCount_0f7a4_14 : decode cJ6_bitCount_0f7a4 14 = .ok (.iand, 1) := by decide +kernel
theorem dJ6_bitCount_0f7a4_15 : decode cJ6_bitCount_0f7a4 15 = .ok (.iload_n 0, 1) := by decide +kernel
theorem dJ6_bitCount_0f7a4_16 : decode cJ6_bitCount_0f7a4 16 = .ok (.iconst 2, 1) := by decide +kernel
theorem dJ6_bitCount_0f7a4_17 : decode cJ6_bitCount_0f7a4 17 = .ok (.iushr, 1) := by decide +kernel
theorem dJ6_bitCount_0f7a4_18 : decode cJ6_bitCount_0f7a4 18 = .ok (.ldc_w 266, 3) := by decide +kernel
theorem dJ6_bitCount_0f7a4_21 : decode cJ6_bitCount_0f7a4 21 = .ok (.iand, 1) := by decide +kernel
theorem dJ6_bitCount_0f7a4_22 : decode cJ6_bitCount_0f7a4 22 = .ok (.iadd, 1) := by decide +kernel
theorem dJ6_bitCount_0f7a4_23 : decode cJ6_bitCount_0f7a4 23 = .ok (.istore_n 0, 1) := by decide +kernel
theorem dJ6_bitCount_0f7a4_24 : decode cJ6_bitCount_0f7a4 24 = .ok (.iload_n 0, 1) := by decide +kernel
theorem dJ6_bitCount_0f7a4_25 : decode cJ6_bitCount_0f7a4 25 = .ok (.iload_n 0, 1) := by decide +kernel
theorem dJ6_bitCount_0f7a4_26 : decode cJ6_bitCount_0f7a4 26 = .ok (.iconst 4, 1) := by decide +kernel
theorem dJ6_bitCount_0f7a4_27 : decode cJ6_bitCount_0f7a4 27 = .ok (.iushr, 1) := by decide +kernel
theorem dJ6_bitCount_0f7a4_28 : decode cJ6_bitCount_0f7a4 28 = .ok (.iadd, 1) := by decide +kernel
theorem dJ6_bitCount_0f7a4_29 : decode cJ6_bitCount_0f7a4 29 = .ok (.ldc_w 267, 3) := by decide +kernel
theorem dJ6_bitCount_0f7a4_32 : decode cJ6_bitCount_0f7a4 32 = .ok (.iand, 1) := by decide +kernel
theorem dJ6_bitCount_0f7a4_33 : decode cJ6_bitCount_0f7a4 33 = .ok (.istore_n 0, 1) := by decide +kernel
theorem dJ6_bitCount_0f7a4_34 : decode cJ6_bitCount_0f7a4 34 = .ok (.iload_n 0, 1) := by decide +kernel
theorem dJ6_bitCount_0f7a4_35 : decode cJ6_bitCount_0f7a4 35 = .ok (.iload_n 0, 1) := by decide +kernel
theorem dJ6_bitCount_0f7a4_36 : decode cJ6_bitCount_0f7a4 36 = .ok (.bipush 8, 2) := by decide +kernel
theorem dJ6_bitCount_0f7a4_38 : decode cJ6_bitCount_0f7a4 38 = .ok (.iushr, 1) := by decide +kernel
theorem dJ6_bitCount_0f7a4_39 : decode cJ6_bitCount_0f7a4 39 = .ok (.iadd, 1) := by decide +kernel
theorem dJ6_bitCount_0f7a4_40 : decode cJ6_bitCount_0f7a4 40 = .ok (.istore_n 0, 1) := by decide +kernel
theorem dJ6_bitCount_0f7a4_41 : decode cJ6_bitCount_0f7a4 41 = .ok (.iload_n 0, 1) := by decide +kernel
theorem dJ6_bitCount_0f7a4_42 : decode cJ6_bitCount_0f7a4 42 = .ok (.iload_n 0, 1) := by decide +kernel
theorem dJ6_bitCount_0f7a4_43 : decode cJ6_bitCount_0f7a4 43 = .ok (.bipush 16, 2) := by decide +kernel
theorem dJ6_bitCount_0f7a4_45 : decode cJ6_bitCount_0f7a4 45 = .ok (.iushr, 1) := by decide +kernel
theorem dJ6_bitCount_0f7a4_46 : decode cJ6_bitCount_0f7a4 46 = .ok (.iadd, 1) := by decide +kernel
theorem dJ6_bitCount_0f7a4_47 : decode cJ6_bitCount_0f7a4 47 = .ok (.istore_n 0, 1) := by decide +kernel
theorem dJ6_bitCount_0f7a4_48 : decode cJ6_bitCount_0f7a4 48 = .ok (.iload_n 0, 1) := by decide +kernel
theorem dJ6_bitCount_0f7a4_49 : decode cJ6_bitCount_0f7a4 49 = .ok (.bipush 63, 2) := by decide +kernel
theorem dJ6_bitCount_0f7a4_51 : decode cJ6_bitCount_0f7a4 51 = .ok (.iand, 1) := by decide +kernel
theorem dJ6_bitCount_0f7a4_52 : decode cJ6_bitCount_0f7a4 52 = .ok (.ireturn, 1) := by decide +kernel
theorem dJ9_floorMod_7cf53_0 : decode cJ9_floorMod_7cf53 0 = .ok (.iload_n 0, 1) := by decide +kernel
theorem dJ9_floorMod_7cf53_1 : decode cJ9_floorMod_7cf53 1 = .ok (.iload_n 1, 1) := by decide +kernel
theorem dJ9_floorMod_7cf53_2 : decode cJ9_floorMod_7cf53 2 = .ok (.irem, 1) := by decide +kernel
theorem dJ9_floorMod_7cf53_3 : decode cJ9_floorMod_7cf53 3 = .ok (.istore_n 2, 1) := by decide +kernel
theorem dJ9_floorMod_7cf53_4 : decode cJ9_floorMod_7cf53 4 = .ok (.iload_n 0, 1) := by decide +kernel
theorem dJ9_floorMod_7cf53_5 : decode cJ9_floorMod_7cf53 5 = .ok (.iload_n 1, 1) := by decide +kernel
theorem dJ9_floorMod_7cf53_6 : decode cJ9_floorMod_7cf53 6 = .ok (.ixor, 1) := by decide +kernel
theorem dJ9_floorMod_7cf53_7 : decode cJ9_floorMod_7cf53 7 = .ok (.ifCond .ge 11, 3) := by decide +kernel
theorem dJ9_floorMod_7cf53_10 : decode cJ9_floorMod_7cf53 10 = .ok (.iload_n 2, 1) := by decide +kernel
theorem dJ9_floorMod_7cf53_11 : decode cJ9_floorMod_7cf53 11 = .ok (.ifCond .eq 7, 3) := by decide +kernel
theorem dJ9_floorMod_7cf53_14 : decode cJ9_floorMod_7cf53 14 = .ok (.iload_n 2, 1) := by decide +kernel
theorem dJ9_floorMod_7cf53_15 : decode cJ9_floorMod_7cf53 15 = .ok (.iload_n 1, 1) := by decide +kernel
theorem dJ9_floorMod_7cf53_16 : decode cJ9_floorMod_7cf53 16 = .ok (.iadd, 1) := by decide +kernel
theorem dJ9_floorMod_7cf53_17 : decode cJ9_floorMod_7cf53 17 = .ok (.ireturn, 1) := by decide +kernel
theorem dJ9_floorMod_7cf53_18 : decode cJ9_floorMod_7cf53 18 = .ok (.iload_n 2, 1) := by decide +kernel
theorem dJ9_floorMod_7cf53_19 : decode cJ9_floorMod_7cf53 19 = .ok (.ireturn, 1) := by decide +kernel
theorem dJ9_max_7cf53_0 : decode cJ9_max_7cf53 0 = .ok (.iload_n 0, 1) := by decide +kernel
theorem dJ9_max_7cf53_1 : decode cJ9_max_7cf53 1 = .ok (.iload_n 1, 1) := by decide +kernel
theorem dJ9_max_7cf53_2 : decode cJ9_max_7cf53 2 = .ok (.if_icmp .lt 7, 3) := by decide +kernel
theorem dJ9_max_7cf53_5 : decode cJ9_max_7cf53 5 = .ok (.iload_n 0, 1) := by decide +kernel
theorem dJ9_max_7cf53_6 : decode cJ9_max_7cf53 6 = .ok (.goto 4, 3) := by decide +kernel
theorem dJ9_max_7cf53_9 : decode cJ9_max_7cf53 9 = .ok (.iload_n 1, 1) := by decide +kernel
theorem dJ9_max_7cf53_10 : decode cJ9_max_7cf53 10 = .ok (.ireturn, 1) := by decide +kernel
theorem dJ9_min_7cf53_0 : decode cJ9_min_7cf53 0 = .ok (.iload_n 0, 1) := by decide +kernel
theorem dJ9_min_7cf53_1 : decode cJ9_min_7cf53 1 = .ok (.iload_n 1, 1) := by decide +kernel
theorem dJ9_min_7cf53_2 : decode cJ9_min_7cf53 2 = .ok (.if_icmp .gt 7, 3) := by decide +kernel
theorem dJ9_min_7cf53_5 : decode cJ9_min_7cf53 5 = .ok (.iload_n 0, 1) := by decide +kernel
theorem dJ9_min_7cf53_6 : decode cJ9_min_7cf53 6 = .ok (.goto 4, 3) := by decide +kernel
theorem dJ9_min_7cf53_9 : decode cJ9_min_7cf53 9 = .ok (.iload_n 1, 1) := by decide +kernel
theorem dJ9_min_7cf53_10 : decode cJ9_min_7cf53 10 = .ok (.ireturn, 1) := by decide +kernel
theorem dX0_init_0 : decode cX0_init 0 = .ok (.aload_n 0, 1) := by decide +kernel
theorem dX0_init_1 : decode cX0_init 1 = .ok (.invokespecial 3, 3) := by decide +kernel
theorem dX0_init_4 : decode cX0_init 4 = .ok (.aload_n 0, 1) := by decide +kernel
theorem dX0_init_5 : decode cX0_init 5 = .ok (.iload_n 1, 1) := by decide +kernel
theorem dX0_init_6 : decode cX0_init 6 = .ok (.putfield 9, 3) := by decide +kernel
theorem dX0_init_9 : decode cX0_init 9 = .ok (.aload_n 0, 1) := by decide +kernel
theorem dX0_init_10 : decode cX0_init 10 = .ok (.new 15, 3) := by decide +kernel
theorem dX0_init_13 : decode cX0_init 13 = .ok (.dup, 1) := by decide +kernel
theorem dX0_init_14 : decode cX0_init 14 = .ok (.aload_n 2, 1) := by decide +kernel
theorem dX0_init_15 : decode cX0_init 15 = .ok (.invokespecial 17, 3) := by decide +kernel
theorem dX0_init_18 : decode cX0_init 18 = .ok (.putfield 20, 3) := by decide +kernel
theorem dX0_init_21 : decode cX0_init 21 = .ok (.aload_n 0, 1) := by decide +kernel
theorem dX0_init_22 : decode cX0_init 22 = .ok (.new 24, 3) := by decide +kernel
theorem dX0_init_25 : decode cX0_init 25 = .ok (.dup, 1) := by decide +kernel
theorem dX0_init_26 : decode cX0_init 26 = .ok (.invokespecial 26, 3) := by decide +kernel
theorem dX0_init_29 : decode cX0_init 29 = .ok (.putfield 27, 3) := by decide +kernel
theorem dX0_init_32 : decode cX0_init 32 = .ok (.aload_n 0, 1) := by decide +kernel
theorem dX0_init_33 : decode cX0_init 33 = .ok (.iconst 0, 1) := by decide +kernel
theorem dX0_init_34 : decode cX0_init 34 = .ok (.putfield 31, 3) := by decide +kernel
theorem dX0_init_37 : decode cX0_init 37 = .ok (.aload_n 0, 1) := by decide +kernel
theorem dX0_init_38 : decode cX0_init 38 = .ok (.iconst 0, 1) := by decide +kernel
theorem dX0_init_39 : decode cX0_init 39 = .ok (.putfield 34, 3) := by decide +kernel
theorem dX0_init_42 : decode cX0_init 42 = .ok (.aload_n 0, 1) := by decide +kernel
theorem dX0_init_43 : decode cX0_init 43 = .ok (.iconst 1, 1) := by decide +kernel
theorem dX0_init_44 : decode cX0_init 44 = .ok (.putfield 37, 3) := by decide +kernel
theorem dX0_init_47 : decode cX0_init 47 = .ok (.aload_n 0, 1) := by decide +kernel
theorem dX0_init_48 : decode cX0_init 48 = .ok (.iconst 0, 1) := by decide +kernel
theorem dX0_init_49 : decode cX0_init 49 = .ok (.putfield 40, 3) := by decide +kernel
theorem dX0_init_52 : decode cX0_init 52 = .ok (.aload_n 0, 1) := by decide +kernel
theorem dX0_init_53 : decode cX0_init 53 = .ok (.iconst 0, 1) := by decide +kernel
theorem dX0_init_54 : decode cX0_init 54 = .ok (.putfield 43, 3) := by decide +kernel
theorem dX0_init_57 : decode cX0_init 57 = .ok (.aload_n 0, 1) := by decide +kernel
theorem dX0_init_58 : decode cX0_init 58 = .ok (.iconst 0, 1) := by decide +kernel
theorem dX0_init_59 : decode cX0_init 59 = .ok (.putfield 46, 3) := by decide +kernel
theorem dX0_init_62 : decode cX0_init 62 = .ok (.return_, 1) := by decide +kernel
theorem dX0_fact_0 : decode cX0_fact 0 = .ok (.iload_n 1, 1) := by decide +kernel
theorem dX0_fact_1 : decode cX0_fact 1 = .ok (.tableswitch 83 0 6 #[43, 48, 58, 63, 68, 73, 78], 43) := by decide +kernel
theorem dX0_fact_44 : decode cX0_fact 44 = .ok (.aload_n 0, 1) := by decide +kernel
theorem dX0_fact_45 : decode cX0_fact 45 = .ok (.getfield 31, 3) := by decide +kernel
theorem dX0_fact_48 : decode cX0_fact 48 = .ok (.ireturn, 1) := by decide +kernel
theorem dX0_fact_49 : decode cX0_fact 49 = .ok (.aload_n 0, 1) := by decide +kernel
theorem dX0_fact_50 : decode cX0_fact 50 = .ok (.getfield 34, 3) := by decide +kernel
theorem dX0_fact_53 : decode cX0_fact 53 = .ok (.bipush 99, 2) := by decide +kernel
theorem dX0_fact_55 : decode cX0_fact 55 = .ok (.invokestatic 49, 3) := by decide +kernel
theorem dX0_fact_58 : decode cX0_fact 58 = .ok (.ireturn, 1) := by decide +kernel
theorem dX0_fact_59 : decode cX0_fact 59 = .ok (.aload_n 0, 1) := by decide +kernel
theorem dX0_fact_60 : decode cX0_fact 60 = .ok (.getfield 37, 3) := by decide +kernel
theorem dX0_fact_63 : decode cX0_fact 63 = .ok (.ireturn, 1) := by decide +kernel
theorem dX0_fact_64 : decode cX0_fact 64 = .ok (.aload_n 0, 1) := by decide +kernel
theorem dX0_fact_65 : decode cX0_fact 65 = .ok (.invokevirtual 55, 3) := by decide +kernel
theorem dX0_fact_68 : decode cX0_fact 68 = .ok (.ireturn, 1) := by decide +kernel
theorem dX0_fact_69 : decode cX0_fact 69 = .ok (.aload_n 0, 1) := by decide +kernel
theorem dX0_fact_70 : decode cX0_fact 70 = .ok (.getfield 43, 3) := by decide +kernel
theorem dX0_fact_73 : decode cX0_fact 73 = .ok (.ireturn, 1) := by decide +kernel
theorem dX0_fact_74 : decode cX0_fact 74 = .ok (.aload_n 0, 1) := by decide +kernel
theorem dX0_fact_75 : decode cX0_fact 75 = .ok (.getfield 40, 3) := by decide +kernel
theorem dX0_fact_78 : decode cX0_fact 78 = .ok (.ireturn, 1) := by decide +kernel
theorem dX0_fact_79 : decode cX0_fact 79 = .ok (.aload_n 0, 1) := by decide +kernel
theorem dX0_fact_80 : decode cX0_fact 80 = .ok (.getfield 46, 3) := by decide +kernel
theorem dX0_fact_83 : decode cX0_fact 83 = .ok (.ireturn, 1) := by decide +kernel
theorem dX0_fact_84 : decode cX0_fact 84 = .ok (.bipush (-2), 2) := by decide +kernel
theorem dX0_fact_86 : decode cX0_fact 86 = .ok (.ireturn, 1) := by decide +kernel
theorem dX0_orders_0 : decode cX0_orders 0 = .ok (.aload_n 0, 1) := by decide +kernel
theorem dX0_orders_1 : decode cX0_orders 1 = .ok (.getfield 46, 3) := by decide +kernel
theorem dX0_orders_4 : decode cX0_orders 4 = .ok (.iconst 1, 1) := by decide +kernel
theorem dX0_orders_5 : decode cX0_orders 5 = .ok (.if_icmp .eq 22, 3) := by decide +kernel
theorem dX0_orders_8 : decode cX0_orders 8 = .ok (.aload_n 0, 1) := by decide +kernel
theorem dX0_orders_9 : decode cX0_orders 9 = .ok (.getfield 43, 3) := by decide +kernel
theorem dX0_orders_12 : decode cX0_orders 12 = .ok (.ifCond .ne 15, 3) := by decide +kernel
theorem dX0_orders_15 : decode cX0_orders 15 = .ok (.aload_n 0, 1) := by decide +kernel
theorem dX0_orders_16 : decode cX0_orders 16 = .ok (.getfield 31, 3) := by decide +kernel
theorem dX0_orders_19 : decode cX0_orders 19 = .ok (.bipush 7, 2) := by decide +kernel
theorem dX0_orders_21 : decode cX0_orders 21 = .ok (.invokestatic 59, 3) := by decide +kernel
theorem dX0_orders_24 : decode cX0_orders 24 = .ok (.ifCond .eq 5, 3) := by decide +kernel
theorem dX0_orders_27 : decode cX0_orders 27 = .ok (.iconst 0, 1) := by decide +kernel
theorem dX0_orders_28 : decode cX0_orders 28 = .ok (.ireturn, 1) := by decide +kernel
theorem dX0_orders_29 : decode cX0_orders 29 = .ok (.getstatic 63, 3) := by decide +kernel
theorem dX0_orders_32 : decode cX0_orders 32 = .ok (.aload_n 0, 1) := by decide +kernel
theorem dX0_orders_33 : decode cX0_orders 33 = .ok (.getfield 31, 3) := by decide +kernel
theorem dX0_orders_36 : decode cX0_orders 36 = .ok (.iaload, 1) := by decide +kernel
theorem dX0_orders_37 : decode cX0_orders 37 = .ok (.istore_n 1, 1) := by decide +kernel
theorem dX0_orders_38 : decode cX0_orders 38 = .ok (.aload_n 0, 1) := by decide +kernel
theorem dX0_orders_39 : decode cX0_orders 39 = .ok (.getfield 31, 3) := by decide +kernel
theorem dX0_orders_42 : decode cX0_orders 42 = .ok (.iconst 3, 1) := by decide +kernel
theorem dX0_orders_43 : decode cX0_orders 43 = .ok (.if_icmp .ne 21, 3) := by decide +kernel
theorem dX0_orders_46 : decode cX0_orders 46 = .ok (.iload_n 1, 1) := by decide +kernel
theorem dX0_orders_47 : decode cX0_orders 47 = .ok (.iconst 1, 1) := by decide +kernel
theorem dX0_orders_48 : decode cX0_orders 48 = .ok (.aload_n 0, 1) := by decide +kernel
theorem dX0_orders_49 : decode cX0_orders 49 = .ok (.getfield 37, 3) := by decide +kernel
theorem dX0_orders_52 : decode cX0_orders 52 = .ok (.iconst 1, 1) := by decide +kernel
theorem dX0_orders_53 : decode cX0_orders 53 = .ok (.if_icmp .ne 7, 3) := by decide +kernel
theorem dX0_orders_56 : decode cX0_orders 56 = .ok (.iconst 3, 1) := by decide +kernel
theorem dX0_orders_57 : decode cX0_orders 57 = .ok (.goto 4, 3) := by decide +kernel
theorem dX0_orders_60 : decode cX0_orders 60 = .ok (.iconst 4, 1) := by decide +kernel
theorem dX0_orders_61 : decode cX0_orders 61 = .ok (.ishl, 1) := by decide +kernel
theorem dX0_orders_62 : decode cX0_orders 62 = .ok (.ior, 1) := by decide +kernel
theorem dX0_orders_63 : decode cX0_orders 63 = .ok (.istore_n 1, 1) := by decide +kernel
theorem dX0_orders_64 : decode cX0_orders 64 = .ok (.iload_n 1, 1) := by decide +kernel
theorem dX0_orders_65 : decode cX0_orders 65 = .ok (.ireturn, 1) := by decide +kernel
theorem dX0_underWay_0 : decode cX0_underWay 0 = .ok (.aload_n 0, 1) := by decide +kernel
theorem dX0_underWay_1 : decode cX0_underWay 1 = .ok (.getfield 46, 3) := by decide +kernel
theorem dX0_underWay_4 : decode cX0_underWay 4 = .ok (.ifCond .ne 37, 3) := by decide +kernel
theorem dX0_underWay_7 : decode cX0_underWay 7 = .ok (.aload_n 0, 1) := by decide +kernel
theorem dX0_underWay_8 : decode cX0_underWay 8 = .ok (.getfield 43, 3) := by decide +kernel
theorem dX0_underWay_11 : decode cX0_underWay 11 = .ok (.ifCond .ne 30, 3) := by decide +kernel
theorem dX0_underWay_14 : decode cX0_underWay 14 = .ok (.aload_n 0, 1) := by decide +kernel
theorem dX0_underWay_15 : decode cX0_underWay 15 = .ok (.getfield 31, 3) := by decide +kernel
theorem dX0_underWay_18 : decode cX0_underWay 18 = .ok (.ifCond .ne 19, 3) := by decide +kernel
theorem dX0_underWay_21 : decode cX0_underWay 21 = .ok (.aload_n 0, 1) := by decide +kernel
theorem dX0_underWay_22 : decode cX0_underWay 22 = .ok (.getfield 20, 3) := by decide +kernel
theorem dX0_underWay_25 : decode cX0_underWay 25 = .ok (.getfield 67, 3) := by decide +kernel
theorem dX0_underWay_28 : decode cX0_underWay 28 = .ok (.iconst 0, 1) := by decide +kernel
theorem dX0_underWay_29 : decode cX0_underWay 29 = .ok (.iaload, 1) := by decide +kernel
theorem dX0_underWay_30 : decode cX0_underWay 30 = .ok (.aload_n 0, 1) := by decide +kernel
theorem dX0_underWay_31 : decode cX0_underWay 31 = .ok (.getfield 37, 3) := by decide +kernel
theorem dX0_underWay_34 : decode cX0_underWay 34 = .ok (.if_icmp .eq 7, 3) := by decide +kernel
theorem dX0_underWay_37 : decode cX0_underWay 37 = .ok (.iconst 1, 1) := by decide +kernel
theorem dX0_underWay_38 : decode cX0_underWay 38 = .ok (.goto 4, 3) := by decide +kernel
theorem dX0_underWay_41 : decode cX0_underWay 41 = .ok (.iconst 0, 1) := by decide +kernel
theorem dX0_underWay_42 : decode cX0_underWay 42 = .ok (.ireturn, 1) := by decide +kernel
theorem dX0_shows_0 : decode cX0_shows 0 = .ok (.iconst 0, 1) := by decide +kernel
theorem dX0_shows_1 : decode cX0_shows 1 = .ok (.istore_n 1, 1) := by decide +kernel
theorem dX0_shows_2 : decode cX0_shows 2 = .ok (.iconst 0, 1) := by decide +kernel
theorem dX0_shows_3 : decode cX0_shows 3 = .ok (.istore_n 2, 1) := by decide +kernel
theorem dX0_shows_4 : decode cX0_shows 4 = .ok (.iload_n 2, 1) := by decide +kernel
theorem dX0_shows_5 : decode cX0_shows 5 = .ok (.iconst 3, 1) := by decide +kernel
theorem dX0_shows_6 : decode cX0_shows 6 = .ok (.if_icmp .ge 47, 3) := by decide +kernel
theorem dX0_shows_9 : decode cX0_shows 9 = .ok (.iload_n 1, 1) := by decide +kernel
theorem dX0_shows_10 : decode cX0_shows 10 = .ok (.ifCond .ne 31, 3) := by decide +kernel
theorem dX0_shows_13 : decode cX0_shows 13 = .ok (.aload_n 0, 1) := by decide +kernel
theorem dX0_shows_14 : decode cX0_shows 14 = .ok (.getfield 20, 3) := by decide +kernel
theorem dX0_shows_17 : decode cX0_shows 17 = .ok (.bipush 9, 2) := by decide +kernel
theorem dX0_shows_19 : decode cX0_shows 19 = .ok (.iload_n 2, 1) := by decide +kernel
theorem dX0_shows_20 : decode cX0_shows 20 = .ok (.iadd, 1) := by decide +kernel
theorem dX0_shows_21 : decode cX0_shows 21 = .ok (.invokevirtual 70, 3) := by decide +kernel
theorem dX0_shows_24 : decode cX0_shows 24 = .ok (.ifCond .ne 21, 3) := by decide +kernel
theorem dX0_shows_27 : decode cX0_shows 27 = .ok (.aload_n 0, 1) := by decide +kernel
theorem dX0_shows_28 : decode cX0_shows 28 = .ok (.getfield 20, 3) := by decide +kernel
theorem dX0_shows_31 : decode cX0_shows 31 = .ok (.bipush 12, 2) := by decide +kernel
theorem dX0_shows_33 : decode cX0_shows 33 = .ok (.iload_n 2, 1) := by decide +kernel
theorem dX0_shows_34 : decode cX0_shows 34 = .ok (.iadd, 1) := by decide +kernel
theorem dX0_shows_35 : decode cX0_shows 35 = .ok (.invokevirtual 70, 3) := by decide +kernel
theorem dX0_shows_38 : decode cX0_shows 38 = .ok (.ifCond .ne 7, 3) := by decide +kernel
theorem dX0_shows_41 : decode cX0_shows 41 = .ok (.iconst 1, 1) := by decide +kernel
theorem dX0_shows_42 : decode cX0_shows 42 = .ok (.goto 4, 3) := by decide +kernel
theorem dX0_shows_45 : decode cX0_shows 45 = .ok (.iconst 0, 1) := by decide +kernel
theorem dX0_shows_46 : decode cX0_shows 46 = .ok (.istore_n 1, 1) := by decide +kernel
theorem dX0_shows_47 : decode cX0_shows 47 = .ok (.iinc 2 1, 3) := by decide +kernel
theorem dX0_shows_50 : decode cX0_shows 50 = .ok (.goto (-46), 3) := by decide +kernel
theorem dX0_shows_53 : decode cX0_shows 53 = .ok (.aload_n 0, 1) := by decide +kernel
theorem dX0_shows_54 : decode cX0_shows 54 = .ok (.getfield 20, 3) := by decide +kernel
theorem dX0_shows_57 : decode cX0_shows 57 = .ok (.bipush 9, 2) := by decide +kernel
theorem dX0_shows_59 : decode cX0_shows 59 = .ok (.invokevirtual 74, 3) := by decide +kernel
theorem dX0_shows_62 : decode cX0_shows 62 = .ok (.ifCond .eq 7, 3) := by decide +kernel
theorem dX0_shows_65 : decode cX0_shows 65 = .ok (.iconst 1, 1) := by decide +kernel
theorem dX0_shows_66 : decode cX0_shows 66 = .ok (.goto 4, 3) := by decide +kernel
theorem dX0_shows_69 : decode cX0_shows 69 = .ok (.iconst 0, 1) := by decide +kernel
theorem dX0_shows_70 : decode cX0_shows 70 = .ok (.iload_n 1, 1) := by decide +kernel
theorem dX0_shows_71 : decode cX0_shows 71 = .ok (.ifCond .eq 7, 3) := by decide +kernel
theorem dX0_shows_74 : decode cX0_shows 74 = .ok (.iconst 2, 1) := by decide +kernel
theorem dX0_shows_75 : decode cX0_shows 75 = .ok (.goto 4, 3) := by decide +kernel
theorem dX0_shows_78 : decode cX0_shows 78 = .ok (.iconst 0, 1) := by decide +kernel
theorem dX0_shows_79 : decode cX0_shows 79 = .ok (.ior, 1) := by decide +kernel
theorem dX0_shows_80 : decode cX0_shows 80 = .ok (.aload_n 0, 1) := by decide +kernel
theorem dX0_shows_81 : decode cX0_shows 81 = .ok (.getfield 43, 3) := by decide +kernel
theorem dX0_shows_84 : decode cX0_shows 84 = .ok (.ifCond .eq 7, 3) := by decide +kernel
theorem dX0_shows_87 : decode cX0_shows 87 = .ok (.iconst 4, 1) := by decide +kernel
theorem dX0_shows_88 : decode cX0_shows 88 = .ok (.goto 4, 3) := by decide +kernel
theorem dX0_shows_91 : decode cX0_shows 91 = .ok (.iconst 0, 1) := by decide +kernel
theorem dX0_shows_92 : decode cX0_shows 92 = .ok (.ior, 1) := by decide +kernel
theorem dX0_shows_93 : decode cX0_shows 93 = .ok (.ireturn, 1) := by decide +kernel
theorem dX0_act_0 : decode cX0_act 0 = .ok (.aload_n 0, 1) := by decide +kernel
theorem dX0_act_1 : decode cX0_act 1 = .ok (.getfield 20, 3) := by decide +kernel
theorem dX0_act_4 : decode cX0_act 4 = .ok (.aload_n 1, 1) := by decide +kernel
theorem dX0_act_5 : decode cX0_act 5 = .ok (.invokevirtual 77, 3) := by decide +kernel
theorem dX0_act_8 : decode cX0_act 8 = .ok (.aload_n 0, 1) := by decide +kernel
theorem dX0_act_9 : decode cX0_act 9 = .ok (.dup, 1) := by decide +kernel
theorem dX0_act_10 : decode cX0_act 10 = .ok (.getfield 34, 3) := by decide +kernel
theorem dX0_act_13 : decode cX0_act 13 = .ok (.iconst 1, 1) := by decide +kernel
theorem dX0_act_14 : decode cX0_act 14 = .ok (.iadd, 1) := by decide +kernel
theorem dX0_act_15 : decode cX0_act 15 = .ok (.putfield 34, 3) := by decide +kernel
theorem dX0_act_18 : decode cX0_act 18 = .ok (.aload_n 0, 1) := by decide +kernel
theorem dX0_act_19 : decode cX0_act 19 = .ok (.getfield 20, 3) := by decide +kernel
theorem dX0_act_22 : decode cX0_act 22 = .ok (.getfield 67, 3) := by decide +kernel
theorem dX0_act_25 : decode cX0_act 25 = .ok (.iconst 0, 1) := by decide +kernel
theorem dX0_act_26 : decode cX0_act 26 = .ok (.iaload, 1) := by decide +kernel
theorem dX0_act_27 : decode cX0_act 27 = .ok (.aload_n 0, 1) := by decide +kernel
theorem dX0_act_28 : decode cX0_act 28 = .ok (.getfield 37, 3) := by decide +kernel
theorem dX0_act_31 : decode cX0_act 31 = .ok (.if_icmp .eq 7, 3) := by decide +kernel
theorem dX0_act_34 : decode cX0_act 34 = .ok (.iconst 1, 1) := by decide +kernel
theorem dX0_act_35 : decode cX0_act 35 = .ok (.goto 4, 3) := by decide +kernel
theorem dX0_act_38 : decode cX0_act 38 = .ok (.iconst 0, 1) := by decide +kernel
theorem dX0_act_39 : decode cX0_act 39 = .ok (.istore 4, 2) := by decide +kernel
theorem dX0_act_41 : decode cX0_act 41 = .ok (.iload 4, 2) := by decide +kernel
theorem dX0_act_43 : decode cX0_act 43 = .ok (.ifCond .eq 10, 3) := by decide +kernel
theorem dX0_act_46 : decode cX0_act 46 = .ok (.aload_n 0, 1) := by decide +kernel
theorem dX0_act_47 : decode cX0_act 47 = .ok (.invokevirtual 80, 3) := by decide +kernel
theorem dX0_act_50 : decode cX0_act 50 = .ok (.goto 7, 3) := by decide +kernel
theorem dX0_act_53 : decode cX0_act 53 = .ok (.aload_n 0, 1) := by decide +kernel
theorem dX0_act_54 : decode cX0_act 54 = .ok (.invokevirtual 83, 3) := by decide +kernel
theorem dX0_act_57 : decode cX0_act 57 = .ok (.istore 5, 2) := by decide +kernel
theorem dX0_act_59 : decode cX0_act 59 = .ok (.aload_n 0, 1) := by decide +kernel
theorem dX0_act_60 : decode cX0_act 60 = .ok (.getfield 43, 3) := by decide +kernel
theorem dX0_act_63 : decode cX0_act 63 = .ok (.ifCond .ne 29, 3) := by decide +kernel
theorem dX0_act_66 : decode cX0_act 66 = .ok (.iload 5, 2) := by decide +kernel
theorem dX0_act_68 : decode cX0_act 68 = .ok (.aload_n 0, 1) := by decide +kernel
theorem dX0_act_69 : decode cX0_act 69 = .ok (.getfield 31, 3) := by decide +kernel
theorem dX0_act_72 : decode cX0_act 72 = .ok (.if_icmp .eq 20, 3) := by decide +kernel
theorem dX0_act_75 : decode cX0_act 75 = .ok (.aload_n 0, 1) := by decide +kernel
theorem dX0_act_76 : decode cX0_act 76 = .ok (.iload 5, 2) := by decide +kernel
theorem dX0_act_78 : decode cX0_act 78 = .ok (.invokevirtual 86, 3) := by decide +kernel
theorem dX0_act_81 : decode cX0_act 81 = .ok (.aload_n 2, 1) := by decide +kernel
theorem dX0_act_82 : decode cX0_act 82 = .ok (.iload_n 3, 1) := by decide +kernel
theorem dX0_act_83 : decode cX0_act 83 = .ok (.aload_n 0, 1) := by decide +kernel
theorem dX0_act_84 : decode cX0_act 84 = .ok (.getfield 9, 3) := by decide +kernel
theorem dX0_act_87 : decode cX0_act 87 = .ok (.iload 5, 2) := by decide +kernel
theorem dX0_act_89 : decode cX0_act 89 = .ok (.invokevirtual 90, 3) := by decide +kernel
theorem dX0_act_92 : decode cX0_act 92 = .ok (.aload_n 0, 1) := by decide +kernel
theorem dX0_act_93 : decode cX0_act 93 = .ok (.getfield 27, 3) := by decide +kernel
theorem dX0_act_96 : decode cX0_act 96 = .ok (.aload_n 0, 1) := by decide +kernel
theorem dX0_act_97 : decode cX0_act 97 = .ok (.invokevirtual 55, 3) := by decide +kernel
theorem dX0_act_100 : decode cX0_act 100 = .ok (.iload 4, 2) := by decide +kernel
theorem dX0_act_102 : decode cX0_act 102 = .ok (.invokevirtual 96, 3) := by decide +kernel
theorem dX0_act_105 : decode cX0_act 105 = .ok (.aload_n 0, 1) := by decide +kernel
theorem dX0_act_106 : decode cX0_act 106 = .ok (.getfield 43, 3) := by decide +kernel
theorem dX0_act_109 : decode cX0_act 109 = .ok (.ifCond .ne 41, 3) := by decide +kernel
theorem dX0_act_112 : decode cX0_act 112 = .ok (.aload_n 0, 1) := by decide +kernel
theorem dX0_act_113 : decode cX0_act 113 = .ok (.aload_n 0, 1) := by decide +kernel
theorem dX0_act_114 : decode cX0_act 114 = .ok (.getfield 27, 3) := by decide +kernel
theorem dX0_act_117 : decode cX0_act 117 = .ok (.aload_n 0, 1) := by decide +kernel
theorem dX0_act_118 : decode cX0_act 118 = .ok (.getfield 20, 3) := by decide +kernel
theorem dX0_act_121 : decode cX0_act 121 = .ok (.invokevirtual 100, 3) := by decide +kernel
theorem dX0_act_124 : decode cX0_act 124 = .ok (.putfield 43, 3) := by decide +kernel
theorem dX0_act_127 : decode cX0_act 127 = .ok (.aload_n 0, 1) := by decide +kernel
theorem dX0_act_128 : decode cX0_act 128 = .ok (.getfield 43, 3) := by decide +kernel
theorem dX0_act_131 : decode cX0_act 131 = .ok (.ifCond .eq 19, 3) := by decide +kernel
theorem dX0_act_134 : decode cX0_act 134 = .ok (.aload_n 2, 1) := by decide +kernel
theorem dX0_act_135 : decode cX0_act 135 = .ok (.iload_n 3, 1) := by decide +kernel
theorem dX0_act_136 : decode cX0_act 136 = .ok (.aload_n 0, 1) := by decide +kernel
theorem dX0_act_137 : decode cX0_act 137 = .ok (.getfield 9, 3) := by decide +kernel
theorem dX0_act_140 : decode cX0_act 140 = .ok (.bipush 10, 2) := by decide +kernel
theorem dX0_act_142 : decode cX0_act 142 = .ok (.aload_n 0, 1) := by decide +kernel
theorem dX0_act_143 : decode cX0_act 143 = .ok (.getfield 43, 3) := by decide +kernel
theorem dX0_act_146 : decode cX0_act 146 = .ok (.iadd, 1) := by decide +kernel
theorem dX0_act_147 : decode cX0_act 147 = .ok (.invokevirtual 90, 3) := by decide +kernel
theorem dX0_act_150 : decode cX0_act 150 = .ok (.return_, 1) := by decide +kernel
theorem dX0_come_0 : decode cX0_come 0 = .ok (.aload_n 0, 1) := by decide +kernel
theorem dX0_come_1 : decode cX0_come 1 = .ok (.getfield 31, 3) := by decide +kernel
theorem dX0_come_4 : decode cX0_come 4 = .ok (.iconst 5, 1) := by decide +kernel
theorem dX0_come_5 : decode cX0_come 5 = .ok (.if_icmp .ne 8, 3) := by decide +kernel
theorem dX0_come_8 : decode cX0_come 8 = .ok (.aload_n 0, 1) := by decide +kernel
theorem dX0_come_9 : decode cX0_come 9 = .ok (.iconst 0, 1) := by decide +kernel
theorem dX0_come_10 : decode cX0_come 10 = .ok (.putfield 40, 3) := by decide +kernel
theorem dX0_come_13 : decode cX0_come 13 = .ok (.aload_n 0, 1) := by decide +kernel
theorem dX0_come_14 : decode cX0_come 14 = .ok (.iload_n 1, 1) := by decide +kernel
theorem dX0_come_15 : decode cX0_come 15 = .ok (.putfield 31, 3) := by decide +kernel
theorem dX0_come_18 : decode cX0_come 18 = .ok (.aload_n 0, 1) := by decide +kernel
theorem dX0_come_19 : decode cX0_come 19 = .ok (.iconst 0, 1) := by decide +kernel
theorem dX0_come_20 : decode cX0_come 20 = .ok (.putfield 34, 3) := by decide +kernel
theorem dX0_come_23 : decode cX0_come 23 = .ok (.return_, 1) := by decide +kernel
theorem dX0_turn_0 : decode cX0_turn 0 = .ok (.aload_n 0, 1) := by decide +kernel
theorem dX0_turn_1 : decode cX0_turn 1 = .ok (.aload_n 0, 1) := by decide +kernel
theorem dX0_turn_2 : decode cX0_turn 2 = .ok (.getfield 20, 3) := by decide +kernel
theorem dX0_turn_5 : decode cX0_turn 5 = .ok (.getfield 67, 3) := by decide +kernel
theorem dX0_turn_8 : decode cX0_turn 8 = .ok (.iconst 0, 1) := by decide +kernel
theorem dX0_turn_9 : decode cX0_turn 9 = .ok (.iaload, 1) := by decide +kernel
theorem dX0_turn_10 : decode cX0_turn 10 = .ok (.putfield 37, 3) := by decide +kernel
theorem dX0_turn_13 : decode cX0_turn 13 = .ok (.aload_n 0, 1) := by decide +kernel
theorem dX0_turn_14 : decode cX0_turn 14 = .ok (.getfield 31, 3) := by decide +kernel
theorem dX0_turn_17 : decode cX0_turn 17 = .ok (.tableswitch 58 0 7 #[47, 58, 58, 49, 58, 51, 51, 51], 47) := by decide +kernel
theorem dX0_turn_64 : decode cX0_turn 64 = .ok (.iconst 1, 1) := by decide +kernel
theorem dX0_turn_65 : decode cX0_turn 65 = .ok (.ireturn, 1) := by decide +kernel
theorem dX0_turn_66 : decode cX0_turn 66 = .ok (.iconst 4, 1) := by decide +kernel
theorem dX0_turn_67 : decode cX0_turn 67 = .ok (.ireturn, 1) := by decide +kernel
theorem dX0_turn_68 : decode cX0_turn 68 = .ok (.aload_n 0, 1) := by decide +kernel
theorem dX0_turn_69 : decode cX0_turn 69 = .ok (.iconst 1, 1) := by decide +kernel
theorem dX0_turn_70 : decode cX0_turn 70 = .ok (.putfield 40, 3) := by decide +kernel
theorem dX0_turn_73 : decode cX0_turn 73 = .ok (.iconst 5, 1) := by decide +kernel
theorem dX0_turn_74 : decode cX0_turn 74 = .ok (.ireturn, 1) := by decide +kernel
theorem dX0_turn_75 : decode cX0_turn 75 = .ok (.aload_n 0, 1) := by decide +kernel
theorem dX0_turn_76 : decode cX0_turn 76 = .ok (.getfield 31, 3) := by decide +kernel
theorem dX0_turn_79 : decode cX0_turn 79 = .ok (.ireturn, 1) := by decide +kernel
theorem dX0_nextStage_0 : decode cX0_nextStage 0 = .ok (.aload_n 0, 1) := by decide +kernel
theorem dX0_nextStage_1 : decode cX0_nextStage 1 = .ok (.getfield 31, 3) := by decide +kernel
theorem dX0_nextStage_4 : decode cX0_nextStage 4 = .ok (.tableswitch 152 1 7 #[44, 58, 76, 89, 102, 117, 136], 44) := by decide +kernel
theorem dX0_nextStage_48 : decode cX0_nextStage 48 = .ok (.aload_n 0, 1) := by decide +kernel
theorem dX0_nextStage_49 : decode cX0_nextStage 49 = .ok (.getfield 34, 3) := by decide +kernel
theorem dX0_nextStage_52 : decode cX0_nextStage 52 = .ok (.iconst 2, 1) := by decide +kernel
theorem dX0_nextStage_53 : decode cX0_nextStage 53 = .ok (.if_icmp .lt 7, 3) := by decide +kernel
theorem dX0_nextStage_56 : decode cX0_nextStage 56 = .ok (.iconst 2, 1) := by decide +kernel
theorem dX0_nextStage_57 : decode cX0_nextStage 57 = .ok (.goto 4, 3) := by decide +kernel
theorem dX0_nextStage_60 : decode cX0_nextStage 60 = .ok (.iconst 1, 1) := by decide +kernel
theorem dX0_nextStage_61 : decode cX0_nextStage 61 = .ok (.ireturn, 1) := by decide +kernel
theorem dX0_nextStage_62 : decode cX0_nextStage 62 = .ok (.aload_n 0, 1) := by decide +kernel
theorem dX0_nextStage_63 : decode cX0_nextStage 63 = .ok (.getfield 20, 3) := by decide +kernel
theorem dX0_nextStage_66 : decode cX0_nextStage 66 = .ok (.bipush 6, 2) := by decide +kernel
theorem dX0_nextStage_68 : decode cX0_nextStage 68 = .ok (.invokevirtual 74, 3) := by decide +kernel
theorem dX0_nextStage_71 : decode cX0_nextStage 71 = .ok (.ifCond .eq 7, 3) := by decide +kernel
theorem dX0_nextStage_74 : decode cX0_nextStage 74 = .ok (.iconst 4, 1) := by decide +kernel
theorem dX0_nextStage_75 : decode cX0_nextStage 75 = .ok (.goto 4, 3) := by decide +kernel
theorem dX0_nextStage_78 : decode cX0_nextStage 78 = .ok (.iconst 2, 1) := by decide +kernel
theorem dX0_nextStage_79 : decode cX0_nextStage 79 = .ok (.ireturn, 1) := by decide +kernel
theorem dX0_nextStage_80 : decode cX0_nextStage 80 = .ok (.aload_n 0, 1) := by decide +kernel
theorem dX0_nextStage_81 : decode cX0_nextStage 81 = .ok (.invokevirtual 104, 3) := by decide +kernel
theorem dX0_nextStage_84 : decode cX0_nextStage 84 = .ok (.ifCond .eq 7, 3) := by decide +kernel
theorem dX0_nextStage_87 : decode cX0_nextStage 87 = .ok (.iconst 4, 1) := by decide +kernel
theorem dX0_nextStage_88 : decode cX0_nextStage 88 = .ok (.goto 4, 3) := by decide +kernel
theorem dX0_nextStage_91 : decode cX0_nextStage 91 = .ok (.iconst 3, 1) := by decide +kernel
theorem dX0_nextStage_92 : decode cX0_nextStage 92 = .ok (.ireturn, 1) := by decide +kernel
theorem dX0_nextStage_93 : decode cX0_nextStage 93 = .ok (.aload_n 0, 1) := by decide +kernel
theorem dX0_nextStage_94 : decode cX0_nextStage 94 = .ok (.invokevirtual 108, 3) := by decide +kernel
theorem dX0_nextStage_97 : decode cX0_nextStage 97 = .ok (.ifCond .eq 7, 3) := by decide +kernel
theorem dX0_nextStage_100 : decode cX0_nextStage 100 = .ok (.iconst 3, 1) := by decide +kernel
theorem dX0_nextStage_101 : decode cX0_nextStage 101 = .ok (.goto 4, 3) := by decide +kernel
theorem dX0_nextStage_104 : decode cX0_nextStage 104 = .ok (.iconst 5, 1) := by decide +kernel
theorem dX0_nextStage_105 : decode cX0_nextStage 105 = .ok (.ireturn, 1) := by decide +kernel
theorem dX0_nextStage_106 : decode cX0_nextStage 106 = .ok (.aload_n 0, 1) := by decide +kernel
theorem dX0_nextStage_107 : decode cX0_nextStage 107 = .ok (.getfield 40, 3) := by decide +kernel
theorem dX0_nextStage_110 : decode cX0_nextStage 110 = .ok (.iconst 1, 1) := by decide +kernel
theorem dX0_nextStage_111 : decode cX0_nextStage 111 = .ok (.if_icmp .ne 7, 3) := by decide +kernel
theorem dX0_nextStage_114 : decode cX0_nextStage 114 = .ok (.iconst 2, 1) := by decide +kernel
theorem dX0_nextStage_115 : decode cX0_nextStage 115 = .ok (.goto 5, 3) := by decide +kernel
theorem dX0_nextStage_118 : decode cX0_nextStage 118 = .ok (.bipush 6, 2) := by decide +kernel
theorem dX0_nextStage_120 : decode cX0_nextStage 120 = .ok (.ireturn, 1) := by decide +kernel
theorem dX0_nextStage_121 : decode cX0_nextStage 121 = .ok (.aload_n 0, 1) := by decide +kernel
theorem dX0_nextStage_122 : decode cX0_nextStage 122 = .ok (.getfield 20, 3) := by decide +kernel
theorem dX0_nextStage_125 : decode cX0_nextStage 125 = .ok (.iconst 3, 1) := by decide +kernel
theorem dX0_nextStage_126 : decode cX0_nextStage 126 = .ok (.invokevirtual 74, 3) := by decide +kernel
theorem dX0_nextStage_129 : decode cX0_nextStage 129 = .ok (.ifCond .eq 8, 3) := by decide +kernel
theorem dX0_nextStage_132 : decode cX0_nextStage 132 = .ok (.bipush 7, 2) := by decide +kernel
theorem dX0_nextStage_134 : decode cX0_nextStage 134 = .ok (.goto 5, 3) := by decide +kernel
theorem dX0_nextStage_137 : decode cX0_nextStage 137 = .ok (.bipush 6, 2) := by decide +kernel
theorem dX0_nextStage_139 : decode cX0_nextStage 139 = .ok (.ireturn, 1) := by decide +kernel
theorem dX0_nextStage_140 : decode cX0_nextStage 140 = .ok (.aload_n 0, 1) := by decide +kernel
theorem dX0_nextStage_141 : decode cX0_nextStage 141 = .ok (.getfield 34, 3) := by decide +kernel
theorem dX0_nextStage_144 : decode cX0_nextStage 144 = .ok (.bipush 10, 2) := by decide +kernel
theorem dX0_nextStage_146 : decode cX0_nextStage 146 = .ok (.if_icmp .lt 7, 3) := by decide +kernel
theorem dX0_nextStage_149 : decode cX0_nextStage 149 = .ok (.iconst 0, 1) := by decide +kernel
theorem dX0_nextStage_150 : decode cX0_nextStage 150 = .ok (.goto 5, 3) := by decide +kernel
theorem dX0_nextStage_153 : decode cX0_nextStage 153 = .ok (.bipush 7, 2) := by decide +kernel
theorem dX0_nextStage_155 : decode cX0_nextStage 155 = .ok (.ireturn, 1) := by decide +kernel
theorem dX0_nextStage_156 : decode cX0_nextStage 156 = .ok (.aload_n 0, 1) := by decide +kernel
theorem dX0_nextStage_157 : decode cX0_nextStage 157 = .ok (.getfield 31, 3) := by decide +kernel
theorem dX0_nextStage_160 : decode cX0_nextStage 160 = .ok (.ireturn, 1) := by decide +kernel
theorem dX0_gearsThere_0 : decode cX0_gearsThere 0 = .ok (.aload_n 0, 1) := by decide +kernel
theorem dX0_gearsThere_1 : decode cX0_gearsThere 1 = .ok (.getfield 20, 3) := by decide +kernel
theorem dX0_gearsThere_4 : decode cX0_gearsThere 4 = .ok (.aload_n 0, 1) := by decide +kernel
theorem dX0_gearsThere_5 : decode cX0_gearsThere 5 = .ok (.getfield 37, 3) := by decide +kernel
theorem dX0_gearsThere_8 : decode cX0_gearsThere 8 = .ok (.iconst 1, 1) := by decide +kernel
theorem dX0_gearsThere_9 : decode cX0_gearsThere 9 = .ok (.if_icmp .ne 8, 3) := by decide +kernel
theorem dX0_gearsThere_12 : decode cX0_gearsThere 12 = .ok (.bipush 9, 2) := by decide +kernel
theorem dX0_gearsThere_14 : decode cX0_gearsThere 14 = .ok (.goto 5, 3) := by decide +kernel
theorem dX0_gearsThere_17 : decode cX0_gearsThere 17 = .ok (.bipush 12, 2) := by decide +kernel
theorem dX0_gearsThere_19 : decode cX0_gearsThere 19 = .ok (.invokevirtual 74, 3) := by decide +kernel
theorem dX0_gearsThere_22 : decode cX0_gearsThere 22 = .ok (.ireturn, 1) := by decide +kernel
theorem dX0_gearsMayGo_0 : decode cX0_gearsMayGo 0 = .ok (.aload_n 0, 1) := by decide +kernel
theorem dX0_gearsMayGo_1 : decode cX0_gearsMayGo 1 = .ok (.invokevirtual 104, 3) := by decide +kernel
theorem dX0_gearsMayGo_4 : decode cX0_gearsMayGo 4 = .ok (.ifCond .ne 27, 3) := by decide +kernel
theorem dX0_gearsMayGo_7 : decode cX0_gearsMayGo 7 = .ok (.aload_n 0, 1) := by decide +kernel
theorem dX0_gearsMayGo_8 : decode cX0_gearsMayGo 8 = .ok (.getfield 37, 3) := by decide +kernel
theorem dX0_gearsMayGo_11 : decode cX0_gearsMayGo 11 = .ok (.iconst 1, 1) := by decide +kernel
theorem dX0_gearsMayGo_12 : decode cX0_gearsMayGo 12 = .ok (.if_icmp .eq 15, 3) := by decide +kernel
theorem dX0_gearsMayGo_15 : decode cX0_gearsMayGo 15 = .ok (.aload_n 0, 1) := by decide +kernel
theorem dX0_gearsMayGo_16 : decode cX0_gearsMayGo 16 = .ok (.getfield 20, 3) := by decide +kernel
theorem dX0_gearsMayGo_19 : decode cX0_gearsMayGo 19 = .ok (.bipush 15, 2) := by decide +kernel
theorem dX0_gearsMayGo_21 : decode cX0_gearsMayGo 21 = .ok (.invokevirtual 111, 3) := by decide +kernel
theorem dX0_gearsMayGo_24 : decode cX0_gearsMayGo 24 = .ok (.ifCond .ne 7, 3) := by decide +kernel
theorem dX0_gearsMayGo_27 : decode cX0_gearsMayGo 27 = .ok (.iconst 1, 1) := by decide +kernel
theorem dX0_gearsMayGo_28 : decode cX0_gearsMayGo 28 = .ok (.goto 4, 3) := by decide +kernel
theorem dX0_gearsMayGo_31 : decode cX0_gearsMayGo 31 = .ok (.iconst 0, 1) := by decide +kernel
theorem dX0_gearsMayGo_32 : decode cX0_gearsMayGo 32 = .ok (.ireturn, 1) := by decide +kernel
theorem dX1_init_0 : decode cX1_init 0 = .ok (.aload_n 0, 1) := by decide +kernel
theorem dX1_init_1 : decode cX1_init 1 = .ok (.invokespecial 3, 3) := by decide +kernel
theorem dX1_init_4 : decode cX1_init 4 = .ok (.aload_n 0, 1) := by decide +kernel
theorem dX1_init_5 : decode cX1_init 5 = .ok (.sipush 192, 3) := by decide +kernel
theorem dX1_init_8 : decode cX1_init 8 = .ok (.newarray .int, 2) := by decide +kernel
theorem dX1_init_10 : decode cX1_init 10 = .ok (.putfield 9, 3) := by decide +kernel
theorem dX1_init_13 : decode cX1_init 13 = .ok (.aload_n 0, 1) := by decide +kernel
theorem dX1_init_14 : decode cX1_init 14 = .ok (.iconst 0, 1) := by decide +kernel
theorem dX1_init_15 : decode cX1_init 15 = .ok (.putfield 15, 3) := by decide +kernel
theorem dX1_init_18 : decode cX1_init 18 = .ok (.return_, 1) := by decide +kernel
theorem dX1_add_0 : decode cX1_add 0 = .ok (.aload_n 0, 1) := by decide +kernel
theorem dX1_add_1 : decode cX1_add 1 = .ok (.getfield 15, 3) := by decide +kernel
theorem dX1_add_4 : decode cX1_add 4 = .ok (.bipush 64, 2) := by decide +kernel
theorem dX1_add_6 : decode cX1_add 6 = .ok (.invokestatic 19, 3) := by decide +kernel
theorem dX1_add_9 : decode cX1_add 9 = .ok (.iconst 3, 1) := by decide +kernel
theorem dX1_add_10 : decode cX1_add 10 = .ok (.imul, 1) := by decide +kernel
theorem dX1_add_11 : decode cX1_add 11 = .ok (.istore 4, 2) := by decide +kernel
theorem dX1_add_13 : decode cX1_add 13 = .ok (.aload_n 0, 1) := by decide +kernel
theorem dX1_add_14 : decode cX1_add 14 = .ok (.getfield 9, 3) := by decide +kernel
theorem dX1_add_17 : decode cX1_add 17 = .ok (.iload 4, 2) := by decide +kernel
theorem dX1_add_19 : decode cX1_add 19 = .ok (.iload_n 1, 1) := by decide +kernel
theorem dX1_add_20 : decode cX1_add 20 = .ok (.iastore, 1) := by decide +kernel
theorem dX1_add_21 : decode cX1_add 21 = .ok (.aload_n 0, 1) := by decide +kernel
theorem dX1_add_22 : decode cX1_add 22 = .ok (.getfield 9, 3) := by decide +kernel
theorem dX1_add_25 : decode cX1_add 25 = .ok (.iload 4, 2) := by decide +kernel
theorem dX1_add_27 : decode cX1_add 27 = .ok (.iconst 1, 1) := by decide +kernel
theorem dX1_add_28 : decode cX1_add 28 = .ok (.iadd, 1) := by decide +kernel
theorem dX1_add_29 : decode cX1_add 29 = .ok (.iload_n 2, 1) := by decide +kernel
theorem dX1_add_30 : decode cX1_add 30 = .ok (.iastore, 1) := by decide +kernel
theorem dX1_add_31 : decode cX1_add 31 = .ok (.aload_n 0, 1) := by decide +kernel
theorem dX1_add_32 : decode cX1_add 32 = .ok (.getfield 9, 3) := by decide +kernel
theorem dX1_add_35 : decode cX1_add 35 = .ok (.iload 4, 2) := by decide +kernel
theorem dX1_add_37 : decode cX1_add 37 = .ok (.iconst 2, 1) := by decide +kernel
theorem dX1_add_38 : decode cX1_add 38 = .ok (.iadd, 1) := by decide +kernel
theorem dX1_add_39 : decode cX1_add 39 = .ok (.iload_n 3, 1) := by decide +kernel
theorem dX1_add_40 : decode cX1_add 40 = .ok (.iastore, 1) := by decide +kernel
theorem dX1_add_41 : decode cX1_add 41 = .ok (.aload_n 0, 1) := by decide +kernel
theorem dX1_add_42 : decode cX1_add 42 = .ok (.dup, 1) := by decide +kernel
theorem dX1_add_43 : decode cX1_add 43 = .ok (.getfield 15, 3) := by decide +kernel
theorem dX1_add_46 : decode cX1_add 46 = .ok (.iconst 1, 1) := by decide +kernel
theorem dX1_add_47 : decode cX1_add 47 = .ok (.iadd, 1) := by decide +kernel
theorem dX1_add_48 : decode cX1_add 48 = .ok (.putfield 15, 3) := by decide +kernel
theorem dX1_add_51 : decode cX1_add 51 = .ok (.return_, 1) := by decide +kernel
theorem dX1_number_0 : decode cX1_number 0 = .ok (.iload_n 1, 1) := by decide +kernel
theorem dX1_number_1 : decode cX1_number 1 = .ok (.ifCond .lt 22, 3) := by decide +kernel
theorem dX1_number_4 : decode cX1_number 4 = .ok (.iload_n 1, 1) := by decide +kernel
theorem dX1_number_5 : decode cX1_number 5 = .ok (.aload_n 0, 1) := by decide +kernel
theorem dX1_number_6 : decode cX1_number 6 = .ok (.getfield 15, 3) := by decide +kernel
theorem dX1_number_9 : decode cX1_number 9 = .ok (.if_icmp .ge 14, 3) := by decide +kernel
theorem dX1_number_12 : decode cX1_number 12 = .ok (.iload_n 1, 1) := by decide +kernel
theorem dX1_number_13 : decode cX1_number 13 = .ok (.aload_n 0, 1) := by decide +kernel
theorem dX1_number_14 : decode cX1_number 14 = .ok (.getfield 15, 3) := by decide +kernel
theorem dX1_number_17 : decode cX1_number 17 = .ok (.bipush 64, 2) := by decide +kernel
theorem dX1_number_19 : decode cX1_number 19 = .ok (.isub, 1) := by decide +kernel
theorem dX1_number_20 : decode cX1_number 20 = .ok (.if_icmp .ge 5, 3) := by decide +kernel
theorem dX1_number_23 : decode cX1_number 23 = .ok (.iconst (-1), 1) := by decide +kernel
theorem dX1_number_24 : decode cX1_number 24 = .ok (.ireturn, 1) := by decide +kernel
theorem dX1_number_25 : decode cX1_number 25 = .ok (.aload_n 0, 1) := by decide +kernel
theorem dX1_number_26 : decode cX1_number 26 = .ok (.getfield 9, 3) := by decide +kernel
theorem dX1_number_29 : decode cX1_number 29 = .ok (.iload_n 1, 1) := by decide +kernel
theorem dX1_number_30 : decode cX1_number 30 = .ok (.bipush 64, 2) := by decide +kernel
theorem dX1_number_32 : decode cX1_number 32 = .ok (.invokestatic 19, 3) := by decide +kernel
theorem dX1_number_35 : decode cX1_number 35 = .ok (.iconst 3, 1) := by decide +kernel
theorem dX1_number_36 : decode cX1_number 36 = .ok (.imul, 1) := by decide +kernel
theorem dX1_number_37 : decode cX1_number 37 = .ok (.iload_n 2, 1) := by decide +kernel
theorem dX1_number_38 : decode cX1_number 38 = .ok (.iadd, 1) := by decide +kernel
theorem dX1_number_39 : decode cX1_number 39 = .ok (.iaload, 1) := by decide +kernel
theorem dX1_number_40 : decode cX1_number 40 = .ok (.ireturn, 1) := by decide +kernel
theorem dX2_init_0 : decode cX2_init 0 = .ok (.aload_n 0, 1) := by decide +kernel
theorem dX2_init_1 : decode cX2_init 1 = .ok (.invokespecial 3, 3) := by decide +kernel
theorem dX2_init_4 : decode cX2_init 4 = .ok (.aload_n 0, 1) := by decide +kernel
theorem dX2_init_5 : decode cX2_init 5 = .ok (.bipush 6, 2) := by decide +kernel
theorem dX2_init_7 : decode cX2_init 7 = .ok (.newarray .int, 2) := by decide +kernel
theorem dX2_init_9 : decode cX2_init 9 = .ok (.putfield 9, 3) := by decide +kernel
theorem dX2_init_12 : decode cX2_init 12 = .ok (.aload_n 0, 1) := by decide +kernel
theorem dX2_init_13 : decode cX2_init 13 = .ok (.bipush 6, 2) := by decide +kernel
theorem dX2_init_15 : decode cX2_init 15 = .ok (.newarray .int, 2) := by decide +kernel
theorem dX2_init_17 : decode cX2_init 17 = .ok (.putfield 15, 3) := by decide +kernel
theorem dX2_init_20 : decode cX2_init 20 = .ok (.aload_n 0, 1) := by decide +kernel
theorem dX2_init_21 : decode cX2_init 21 = .ok (.bipush 6, 2) := by decide +kernel
theorem dX2_init_23 : decode cX2_init 23 = .ok (.newarray .int, 2) := by decide +kernel
theorem dX2_init_25 : decode cX2_init 25 = .ok (.putfield 18, 3) := by decide +kernel
theorem dX2_init_28 : decode cX2_init 28 = .ok (.aload_n 0, 1) := by decide +kernel
theorem dX2_init_29 : decode cX2_init 29 = .ok (.iconst 5, 1) := by decide +kernel
theorem dX2_init_30 : decode cX2_init 30 = .ok (.newarray .int, 2) := by decide +kernel
theorem dX2_init_32 : decode cX2_init 32 = .ok (.putfield 21, 3) := by decide +kernel
theorem dX2_init_35 : decode cX2_init 35 = .ok (.aload_n 0, 1) := by decide +kernel
theorem dX2_init_36 : decode cX2_init 36 = .ok (.iconst 5, 1) := by decide +kernel
theorem dX2_init_37 : decode cX2_init 37 = .ok (.newarray .int, 2) := by decide +kernel
theorem dX2_init_39 : decode cX2_init 39 = .ok (.putfield 24, 3) := by decide +kernel
theorem dX2_init_42 : decode cX2_init 42 = .ok (.iconst 0, 1) := by decide +kernel
theorem dX2_init_43 : decode cX2_init 43 = .ok (.istore 5, 2) := by decide +kernel
theorem dX2_init_45 : decode cX2_init 45 = .ok (.iload 5, 2) := by decide +kernel
theorem dX2_init_47 : decode cX2_init 47 = .ok (.iconst 3, 1) := by decide +kernel
theorem dX2_init_48 : decode cX2_init 48 = .ok (.if_icmp .ge 70, 3) := by decide +kernel
theorem dX2_init_51 : decode cX2_init 51 = .ok (.aload_n 0, 1) := by decide +kernel
theorem dX2_init_52 : decode cX2_init 52 = .ok (.getfield 9, 3) := by decide +kernel
theorem dX2_init_55 : decode cX2_init 55 = .ok (.iload 5, 2) := by decide +kernel
theorem dX2_init_57 : decode cX2_init 57 = .ok (.iload 5, 2) := by decide +kernel
theorem dX2_init_59 : decode cX2_init 59 = .ok (.ifCond .ne 7, 3) := by decide +kernel
theorem dX2_init_62 : decode cX2_init 62 = .ok (.iload_n 1, 1) := by decide +kernel
theorem dX2_init_63 : decode cX2_init 63 = .ok (.goto 4, 3) := by decide +kernel
theorem dX2_init_66 : decode cX2_init 66 = .ok (.iload_n 2, 1) := by decide +kernel
theorem dX2_init_67 : decode cX2_init 67 = .ok (.invokestatic 27, 3) := by decide +kernel
theorem dX2_init_70 : decode cX2_init 70 = .ok (.iastore, 1) := by decide +kernel
theorem dX2_init_71 : decode cX2_init 71 = .ok (.aload_n 0, 1) := by decide +kernel
theorem dX2_init_72 : decode cX2_init 72 = .ok (.getfield 9, 3) := by decide +kernel
theorem dX2_init_75 : decode cX2_init 75 = .ok (.iconst 3, 1) := by decide +kernel
theorem dX2_init_76 : decode cX2_init 76 = .ok (.iload 5, 2) := by decide +kernel
theorem dX2_init_78 : decode cX2_init 78 = .ok (.iadd, 1) := by decide +kernel
theorem dX2_init_79 : decode cX2_init 79 = .ok (.iload 5, 2) := by decide +kernel
theorem dX2_init_81 : decode cX2_init 81 = .ok (.ifCond .ne 7, 3) := by decide +kernel
theorem dX2_init_84 : decode cX2_init 84 = .ok (.iload_n 3, 1) := by decide +kernel
theorem dX2_init_85 : decode cX2_init 85 = .ok (.goto 5, 3) := by decide +kernel
theorem dX2_init_88 : decode cX2_init 88 = .ok (.iload 4, 2) := by decide +kernel
theorem dX2_init_90 : decode cX2_init 90 = .ok (.invokestatic 27, 3) := by decide +kernel
theorem dX2_init_93 : decode cX2_init 93 = .ok (.iastore, 1) := by decide +kernel
theorem dX2_init_94 : decode cX2_init 94 = .ok (.aload_n 0, 1) := by decide +kernel
theorem dX2_init_95 : decode cX2_init 95 = .ok (.getfield 15, 3) := by decide +kernel
theorem dX2_init_98 : decode cX2_init 98 = .ok (.iconst 3, 1) := by decide +kernel
theorem dX2_init_99 : decode cX2_init 99 = .ok (.iload 5, 2) := by decide +kernel
theorem dX2_init_101 : decode cX2_init 101 = .ok (.iadd, 1) := by decide +kernel
theorem dX2_init_102 : decode cX2_init 102 = .ok (.aload_n 0, 1) := by decide +kernel
theorem dX2_init_103 : decode cX2_init 103 = .ok (.getfield 9, 3) := by decide +kernel
theorem dX2_init_106 : decode cX2_init 106 = .ok (.iconst 3, 1) := by decide +kernel
theorem dX2_init_107 : decode cX2_init 107 = .ok (.iload 5, 2) := by decide +kernel
theorem dX2_init_109 : decode cX2_init 109 = .ok (.iadd, 1) := by decide +kernel
theorem dX2_init_110 : decode cX2_init 110 = .ok (.iaload, 1) := by decide +kernel
theorem dX2_init_111 : decode cX2_init 111 = .ok (.iastore, 1) := by decide +kernel
theorem dX2_init_112 : decode cX2_init 112 = .ok (.iinc 5 1, 3) := by decide +kernel
theorem dX2_init_115 : decode cX2_init 115 = .ok (.goto (-70), 3) := by decide +kernel
theorem dX2_init_118 : decode cX2_init 118 = .ok (.aload_n 0, 1) := by decide +kernel
theorem dX2_init_119 : decode cX2_init 119 = .ok (.iconst 1, 1) := by decide +kernel
theorem dX2_init_120 : decode cX2_init 120 = .ok (.putfield 31, 3) := by decide +kernel
theorem dX2_init_123 : decode cX2_init 123 = .ok (.aload_n 0, 1) := by decide +kernel
theorem dX2_init_124 : decode cX2_init 124 = .ok (.iconst 0, 1) := by decide +kernel
theorem dX2_init_125 : decode cX2_init 125 = .ok (.putfield 35, 3) := by decide +kernel
theorem dX2_init_128 : decode cX2_init 128 = .ok (.aload_n 0, 1) := by decide +kernel
theorem dX2_init_129 : decode cX2_init 129 = .ok (.iconst 0, 1) := by decide +kernel
theorem dX2_init_130 : decode cX2_init 130 = .ok (.putfield 38, 3) := by decide +kernel
theorem dX2_init_133 : decode cX2_init 133 = .ok (.aload_n 0, 1) := by decide +kernel
theorem dX2_init_134 : decode cX2_init 134 = .ok (.iconst 0, 1) := by decide +kernel
theorem dX2_init_135 : decode cX2_init 135 = .ok (.putfield 41, 3) := by decide +kernel
theorem dX2_init_138 : decode cX2_init 138 = .ok (.aload_n 0, 1) := by decide +kernel
theorem dX2_init_139 : decode cX2_init 139 = .ok (.bipush 7, 2) := by decide +kernel
theorem dX2_init_141 : decode cX2_init 141 = .ok (.putfield 44, 3) := by decide +kernel
theorem dX2_init_144 : decode cX2_init 144 = .ok (.aload_n 0, 1) := by decide +kernel
theorem dX2_init_145 : decode cX2_init 145 = .ok (.iconst 0, 1) := by decide +kernel
theorem dX2_init_146 : decode cX2_init 146 = .ok (.putfield 47, 3) := by decide +kernel
theorem dX2_init_149 : decode cX2_init 149 = .ok (.return_, 1) := by decide +kernel
theorem dX2_usableLength_0 : decode cX2_usableLength 0 = .ok (.iload_n 0, 1) := by decide +kernel
theorem dX2_usableLength_1 : decode cX2_usableLength 1 = .ok (.iconst 5, 1) := by decide +kernel
theorem dX2_usableLength_2 : decode cX2_usableLength 2 = .ok (.if_icmp .lt 9, 3) := by decide +kernel
theorem dX2_usableLength_5 : decode cX2_usableLength 5 = .ok (.iload_n 0, 1) := by decide +kernel
theorem dX2_usableLength_6 : decode cX2_usableLength 6 = .ok (.bipush 40, 2) := by decide +kernel
theorem dX2_usableLength_8 : decode cX2_usableLength 8 = .ok (.if_icmp .le 8, 3) := by decide +kernel
theorem dX2_usableLength_11 : decode cX2_usableLength 11 = .ok (.bipush 15, 2) := by decide +kernel
theorem dX2_usableLength_13 : decode cX2_usableLength 13 = .ok (.goto 4, 3) := by decide +kernel
theorem dX2_usableLength_16 : decode cX2_usableLength 16 = .ok (.iload_n 0, 1) := by decide +kernel
theorem dX2_usableLength_17 : decode cX2_usableLength 17 = .ok (.ireturn, 1) := by decide +kernel
theorem dX2_greatestLength_0 : decode cX2_greatestLength 0 = .ok (.aload_n 0, 1) := by decide +kernel
theorem dX2_greatestLength_1 : decode cX2_greatestLength 1 = .ok (.getfield 9, 3) := by decide +kernel
theorem dX2_greatestLength_4 : decode cX2_greatestLength 4 = .ok (.iload_n 1, 1) := by decide +kernel
theorem dX2_greatestLength_5 : decode cX2_greatestLength 5 = .ok (.iaload, 1) := by decide +kernel
theorem dX2_greatestLength_6 : decode cX2_greatestLength 6 = .ok (.aload_n 0, 1) := by decide +kernel
theorem dX2_greatestLength_7 : decode cX2_greatestLength 7 = .ok (.getfield 9, 3) := by decide +kernel
theorem dX2_greatestLength_10 : decode cX2_greatestLength 10 = .ok (.iload_n 1, 1) := by decide +kernel
theorem dX2_greatestLength_11 : decode cX2_greatestLength 11 = .ok (.iconst 1, 1) := by decide +kernel
theorem dX2_greatestLength_12 : decode cX2_greatestLength 12 = .ok (.iadd, 1) := by decide +kernel
theorem dX2_greatestLength_13 : decode cX2_greatestLength 13 = .ok (.iaload, 1) := by decide +kernel
theorem dX2_greatestLength_14 : decode cX2_greatestLength 14 = .ok (.invokestatic 50, 3) := by decide +kernel
theorem dX2_greatestLength_17 : decode cX2_greatestLength 17 = .ok (.ireturn, 1) := by decide +kernel
theorem dX2_moveHandle_0 : decode cX2_moveHandle 0 = .ok (.aload_n 0, 1) := by decide +kernel
theorem dX2_moveHandle_1 : decode cX2_moveHandle 1 = .ok (.getfield 31, 3) := by decide +kernel
theorem dX2_moveHandle_4 : decode cX2_moveHandle 4 = .ok (.istore_n 2, 1) := by decide +kernel
theorem dX2_moveHandle_5 : decode cX2_moveHandle 5 = .ok (.iload_n 2, 1) := by decide +kernel
theorem dX2_moveHandle_6 : decode cX2_moveHandle 6 = .ok (.iload_n 1, 1) := by decide +kernel
theorem dX2_moveHandle_7 : decode cX2_moveHandle 7 = .ok (.if_icmp .eq 15, 3) := by decide +kernel
theorem dX2_moveHandle_10 : decode cX2_moveHandle 10 = .ok (.aload_n 0, 1) := by decide +kernel
theorem dX2_moveHandle_11 : decode cX2_moveHandle 11 = .ok (.iload_n 1, 1) := by decide +kernel
theorem dX2_moveHandle_12 : decode cX2_moveHandle 12 = .ok (.putfield 31, 3) := by decide +kernel
theorem dX2_moveHandle_15 : decode cX2_moveHandle 15 = .ok (.aload_n 0, 1) := by decide +kernel
theorem dX2_moveHandle_16 : decode cX2_moveHandle 16 = .ok (.sipush 200, 3) := by decide +kernel
theorem dX2_moveHandle_19 : decode cX2_moveHandle 19 = .ok (.putfield 38, 3) := by decide +kernel
theorem dX2_moveHandle_22 : decode cX2_moveHandle 22 = .ok (.iload_n 2, 1) := by decide +kernel
theorem dX2_moveHandle_23 : decode cX2_moveHandle 23 = .ok (.ireturn, 1) := by decide +kernel
theorem dX2_move_0 : decode cX2_move 0 = .ok (.aload_n 0, 1) := by decide +kernel
theorem dX2_move_1 : decode cX2_move 1 = .ok (.getfield 41, 3) := by decide +kernel
theorem dX2_move_4 : decode cX2_move 4 = .ok (.ifCond .ne 7, 3) := by decide +kernel
theorem dX2_move_7 : decode cX2_move 7 = .ok (.aload_n 0, 1) := by decide +kernel
theorem dX2_move_8 : decode cX2_move 8 = .ok (.invokevirtual 56, 3) := by decide +kernel
theorem dX2_move_11 : decode cX2_move 11 = .ok (.aload_n 0, 1) := by decide +kernel
theorem dX2_move_12 : decode cX2_move 12 = .ok (.iload_n 1, 1) := by decide +kernel
theorem dX2_move_13 : decode cX2_move 13 = .ok (.invokevirtual 59, 3) := by decide +kernel
theorem dX2_move_16 : decode cX2_move 16 = .ok (.iconst 0, 1) := by decide +kernel
theorem dX2_move_17 : decode cX2_move 17 = .ok (.istore_n 2, 1) := by decide +kernel
theorem dX2_move_18 : decode cX2_move 18 = .ok (.iload_n 2, 1) := by decide +kernel
theorem dX2_move_19 : decode cX2_move 19 = .ok (.iconst 3, 1) := by decide +kernel
theorem dX2_move_20 : decode cX2_move 20 = .ok (.if_icmp .ge 21, 3) := by decide +kernel
theorem dX2_move_23 : decode cX2_move 23 = .ok (.aload_n 0, 1) := by decide +kernel
theorem dX2_move_24 : decode cX2_move 24 = .ok (.iload_n 2, 1) := by decide +kernel
theorem dX2_move_25 : decode cX2_move 25 = .ok (.aload_n 0, 1) := by decide +kernel
theorem dX2_move_26 : decode cX2_move 26 = .ok (.iconst 1, 1) := by decide +kernel
theorem dX2_move_27 : decode cX2_move 27 = .ok (.iconst 2, 1) := by decide +kernel
theorem dX2_move_28 : decode cX2_move 28 = .ok (.invokevirtual 63, 3) := by decide +kernel
theorem dX2_move_31 : decode cX2_move 31 = .ok (.invokevirtual 66, 3) := by decide +kernel
theorem dX2_move_34 : decode cX2_move 34 = .ok (.pop, 1) := by decide +kernel
theorem dX2_move_35 : decode cX2_move 35 = .ok (.iinc 2 1, 3) := by decide +kernel
theorem dX2_move_38 : decode cX2_move 38 = .ok (.goto (-20), 3) := by decide +kernel
theorem dX2_move_41 : decode cX2_move 41 = .ok (.iconst 0, 1) := by decide +kernel
theorem dX2_move_42 : decode cX2_move 42 = .ok (.istore_n 2, 1) := by decide +kernel
theorem dX2_move_43 : decode cX2_move 43 = .ok (.iload_n 2, 1) := by decide +kernel
theorem dX2_move_44 : decode cX2_move 44 = .ok (.iconst 3, 1) := by decide +kernel
theorem dX2_move_45 : decode cX2_move 45 = .ok (.if_icmp .ge 50, 3) := by decide +kernel
theorem dX2_move_48 : decode cX2_move 48 = .ok (.aload_n 0, 1) := by decide +kernel
theorem dX2_move_49 : decode cX2_move 49 = .ok (.iconst 3, 1) := by decide +kernel
theorem dX2_move_50 : decode cX2_move 50 = .ok (.iload_n 2, 1) := by decide +kernel
theorem dX2_move_51 : decode cX2_move 51 = .ok (.iadd, 1) := by decide +kernel
theorem dX2_move_52 : decode cX2_move 52 = .ok (.aload_n 0, 1) := by decide +kernel
theorem dX2_move_53 : decode cX2_move 53 = .ok (.iconst 3, 1) := by decide +kernel
theorem dX2_move_54 : decode cX2_move 54 = .ok (.iconst 4, 1) := by decide +kernel
theorem dX2_move_55 : decode cX2_move 55 = .ok (.invokevirtual 63, 3) := by decide +kernel
theorem dX2_move_58 : decode cX2_move 58 = .ok (.invokevirtual 66, 3) := by decide +kernel
theorem dX2_move_61 : decode cX2_move 61 = .ok (.ifCond .eq 28, 3) := by decide +kernel
theorem dX2_move_64 : decode cX2_move 64 = .ok (.aload_n 0, 1) := by decide +kernel
theorem dX2_move_65 : decode cX2_move 65 = .ok (.getfield 15, 3) := by decide +kernel
theorem dX2_move_68 : decode cX2_move 68 = .ok (.iload_n 2, 1) := by decide +kernel
theorem dX2_move_69 : decode cX2_move 69 = .ok (.iaload, 1) := by decide +kernel
theorem dX2_move_70 : decode cX2_move 70 = .ok (.aload_n 0, 1) := by decide +kernel
theorem dX2_move_71 : decode cX2_move 71 = .ok (.getfield 9, 3) := by decide +kernel
theorem dX2_move_74 : decode cX2_move 74 = .ok (.iload_n 2, 1) := by decide +kernel
theorem dX2_move_75 : decode cX2_move 75 = .ok (.iaload, 1) := by decide +kernel
theorem dX2_move_76 : decode cX2_move 76 = .ok (.if_icmp .eq 13, 3) := by decide +kernel
theorem dX2_move_79 : decode cX2_move 79 = .ok (.aload_n 0, 1) := by decide +kernel
theorem dX2_move_80 : decode cX2_move 80 = .ok (.dup, 1) := by decide +kernel
theorem dX2_move_81 : decode cX2_move 81 = .ok (.getfield 47, 3) := by decide +kernel
theorem dX2_move_84 : decode cX2_move 84 = .ok (.iconst 1, 1) := by decide +kernel
theorem dX2_move_85 : decode cX2_move 85 = .ok (.iadd, 1) := by decide +kernel
theorem dX2_move_86 : decode cX2_move 86 = .ok (.putfield 47, 3) := by decide +kernel
theorem dX2_move_89 : decode cX2_move 89 = .ok (.iinc 2 1, 3) := by decide +kernel
theorem dX2_move_92 : decode cX2_move 92 = .ok (.goto (-49), 3) := by decide +kernel
theorem dX2_move_95 : decode cX2_move 95 = .ok (.return_, 1) := by decide +kernel
theorem dX2_moveSwitch_0 : decode cX2_moveSwitch 0 = .ok (.aload_n 0, 1) := by decide +kernel
theorem dX2_moveSwitch_1 : decode cX2_moveSwitch 1 = .ok (.getfield 38, 3) := by decide +kernel
theorem dX2_moveSwitch_4 : decode cX2_moveSwitch 4 = .ok (.ifCond .ne 20, 3) := by decide +kernel
theorem dX2_moveSwitch_7 : decode cX2_moveSwitch 7 = .ok (.aload_n 0, 1) := by decide +kernel
theorem dX2_moveSwitch_8 : decode cX2_moveSwitch 8 = .ok (.aload_n 0, 1) := by decide +kernel
theorem dX2_moveSwitch_9 : decode cX2_moveSwitch 9 = .ok (.getfield 35, 3) := by decide +kernel
theorem dX2_moveSwitch_12 : decode cX2_moveSwitch 12 = .ok (.iconst 2, 1) := by decide +kernel
theorem dX2_moveSwitch_13 : decode cX2_moveSwitch 13 = .ok (.isub, 1) := by decide +kernel
theorem dX2_moveSwitch_14 : decode cX2_moveSwitch 14 = .ok (.iconst 0, 1) := by decide +kernel
theorem dX2_moveSwitch_15 : decode cX2_moveSwitch 15 = .ok (.invokestatic 50, 3) := by decide +kernel
theorem dX2_moveSwitch_18 : decode cX2_moveSwitch 18 = .ok (.putfield 35, 3) := by decide +kernel
theorem dX2_moveSwitch_21 : decode cX2_moveSwitch 21 = .ok (.goto 40, 3) := by decide +kernel
theorem dX2_moveSwitch_24 : decode cX2_moveSwitch 24 = .ok (.aload_n 0, 1) := by decide +kernel
theorem dX2_moveSwitch_25 : decode cX2_moveSwitch 25 = .ok (.getfield 35, 3) := by decide +kernel
theorem dX2_moveSwitch_28 : decode cX2_moveSwitch 28 = .ok (.bipush 24, 2) := by decide +kernel
theorem dX2_moveSwitch_30 : decode cX2_moveSwitch 30 = .ok (.if_icmp .ge 21, 3) := by decide +kernel
theorem dX2_moveSwitch_33 : decode cX2_moveSwitch 33 = .ok (.aload_n 0, 1) := by decide +kernel
theorem dX2_moveSwitch_34 : decode cX2_moveSwitch 34 = .ok (.aload_n 0, 1) := by decide +kernel
theorem dX2_moveSwitch_35 : decode cX2_moveSwitch 35 = .ok (.getfield 35, 3) := by decide +kernel
theorem dX2_moveSwitch_38 : decode cX2_moveSwitch 38 = .ok (.iconst 3, 1) := by decide +kernel
theorem dX2_moveSwitch_39 : decode cX2_moveSwitch 39 = .ok (.iadd, 1) := by decide +kernel
theorem dX2_moveSwitch_40 : decode cX2_moveSwitch 40 = .ok (.bipush 24, 2) := by decide +kernel
theorem dX2_moveSwitch_42 : decode cX2_moveSwitch 42 = .ok (.invokestatic 70, 3) := by decide +kernel
theorem dX2_moveSwitch_45 : decode cX2_moveSwitch 45 = .ok (.putfield 35, 3) := by decide +kernel
theorem dX2_moveSwitch_48 : decode cX2_moveSwitch 48 = .ok (.goto 13, 3) := by decide +kernel
theorem dX2_moveSwitch_51 : decode cX2_moveSwitch 51 = .ok (.aload_n 0, 1) := by decide +kernel
theorem dX2_moveSwitch_52 : decode cX2_moveSwitch 52 = .ok (.dup, 1) := by decide +kernel
theorem dX2_moveSwitch_53 : decode cX2_moveSwitch 53 = .ok (.getfield 38, 3) := by decide +kernel
theorem dX2_moveSwitch_56 : decode cX2_moveSwitch 56 = .ok (.iconst 1, 1) := by decide +kernel
theorem dX2_moveSwitch_57 : decode cX2_moveSwitch 57 = .ok (.isub, 1) := by decide +kernel
theorem dX2_moveSwitch_58 : decode cX2_moveSwitch 58 = .ok (.putfield 38, 3) := by decide +kernel
theorem dX2_moveSwitch_61 : decode cX2_moveSwitch 61 = .ok (.return_, 1) := by decide +kernel
theorem dX2_movePressures_0 : decode cX2_movePressures 0 = .ok (.aload_n 0, 1) := by decide +kernel
theorem dX2_movePressures_1 : decode cX2_movePressures 1 = .ok (.iconst 0, 1) := by decide +kernel
theorem dX2_movePressures_2 : decode cX2_movePressures 2 = .ok (.invokevirtual 73, 3) := by decide +kernel
theorem dX2_movePressures_5 : decode cX2_movePressures 5 = .ok (.istore_n 2, 1) := by decide +kernel
theorem dX2_movePressures_6 : decode cX2_movePressures 6 = .ok (.aload_n 0, 1) := by decide +kernel
theorem dX2_movePressures_7 : decode cX2_movePressures 7 = .ok (.iconst 0, 1) := by decide +kernel
theorem dX2_movePressures_8 : decode cX2_movePressures 8 = .ok (.aload_n 0, 1) := by decide +kernel
theorem dX2_movePressures_9 : decode cX2_movePressures 9 = .ok (.iconst 0, 1) := by decide +kernel
theorem dX2_movePressures_10 : decode cX2_movePressures 10 = .ok (.iload_n 1, 1) := by decide +kernel
theorem dX2_movePressures_11 : decode cX2_movePressures 11 = .ok (.iconst 0, 1) := by decide +kernel
theorem dX2_movePressures_12 : decode cX2_movePressures 12 = .ok (.invokestatic 77, 3) := by decide +kernel
theorem dX2_movePressures_15 : decode cX2_movePressures 15 = .ok (.ifCond .eq 16, 3) := by decide +kernel
theorem dX2_movePressures_18 : decode cX2_movePressures 18 = .ok (.aload_n 0, 1) := by decide +kernel
theorem dX2_movePressures_19 : decode cX2_movePressures 19 = .ok (.getfield 35, 3) := by decide +kernel
theorem dX2_movePressures_22 : decode cX2_movePressures 22 = .ok (.bipush 24, 2) := by decide +kernel
theorem dX2_movePressures_24 : decode cX2_movePressures 24 = .ok (.if_icmp .ne 7, 3) := by decide +kernel
theorem dX2_movePressures_27 : decode cX2_movePressures 27 = .ok (.iconst 1, 1) := by decide +kernel
theorem dX2_movePressures_28 : decode cX2_movePressures 28 = .ok (.goto 4, 3) := by decide +kernel
theorem dX2_movePressures_31 : decode cX2_movePressures 31 = .ok (.iconst 0, 1) := by decide +kernel
theorem dX2_movePressures_32 : decode cX2_movePressures 32 = .ok (.iconst 1, 1) := by decide +kernel
theorem dX2_movePressures_33 : decode cX2_movePressures 33 = .ok (.invokevirtual 80, 3) := by decide +kernel
theorem dX2_movePressures_36 : decode cX2_movePressures 36 = .ok (.invokevirtual 84, 3) := by decide +kernel
theorem dX2_movePressures_39 : decode cX2_movePressures 39 = .ok (.iconst 1, 1) := by decide +kernel
theorem dX2_movePressures_40 : decode cX2_movePressures 40 = .ok (.istore_n 3, 1) := by decide +kernel
theorem dX2_movePressures_41 : decode cX2_movePressures 41 = .ok (.iload_n 3, 1) := by decide +kernel
theorem dX2_movePressures_42 : decode cX2_movePressures 42 = .ok (.iconst 5, 1) := by decide +kernel
theorem dX2_movePressures_43 : decode cX2_movePressures 43 = .ok (.if_icmp .ge 37, 3) := by decide +kernel
theorem dX2_movePressures_46 : decode cX2_movePressures 46 = .ok (.aload_n 0, 1) := by decide +kernel
theorem dX2_movePressures_47 : decode cX2_movePressures 47 = .ok (.iload_n 3, 1) := by decide +kernel
theorem dX2_movePressures_48 : decode cX2_movePressures 48 = .ok (.aload_n 0, 1) := by decide +kernel
theorem dX2_movePressures_49 : decode cX2_movePressures 49 = .ok (.iload_n 3, 1) := by decide +kernel
theorem dX2_movePressures_50 : decode cX2_movePressures 50 = .ok (.iload_n 1, 1) := by decide +kernel
theorem dX2_movePressures_51 : decode cX2_movePressures 51 = .ok (.iload_n 3, 1) := by decide +kernel
theorem dX2_movePressures_52 : decode cX2_movePressures 52 = .ok (.invokestatic 77, 3) := by decide +kernel
theorem dX2_movePressures_55 : decode cX2_movePressures 55 = .ok (.ifCond .eq 11, 3) := by decide +kernel
theorem dX2_movePressures_58 : decode cX2_movePressures 58 = .ok (.iload_n 2, 1) := by decide +kernel
theorem dX2_movePressures_59 : decode cX2_movePressures 59 = .ok (.ifCond .eq 7, 3) := by decide +kernel
theorem dX2_movePressures_62 : decode cX2_movePressures 62 = .ok (.iconst 1, 1) := by decide +kernel
theorem dX2_movePressures_63 : decode cX2_movePressures 63 = .ok (.goto 4, 3) := by decide +kernel
theorem dX2_movePressures_66 : decode cX2_movePressures 66 = .ok (.iconst 0, 1) := by decide +kernel
theorem dX2_movePressures_67 : decode cX2_movePressures 67 = .ok (.iload_n 2, 1) := by decide +kernel
theorem dX2_movePressures_68 : decode cX2_movePressures 68 = .ok (.invokevirtual 80, 3) := by decide +kernel
theorem dX2_movePressures_71 : decode cX2_movePressures 71 = .ok (.invokevirtual 84, 3) := by decide +kernel
theorem dX2_movePressures_74 : decode cX2_movePressures 74 = .ok (.iinc 3 1, 3) := by decide +kernel
theorem dX2_movePressures_77 : decode cX2_movePressures 77 = .ok (.goto (-36), 3) := by decide +kernel
theorem dX2_movePressures_80 : decode cX2_movePressures 80 = .ok (.return_, 1) := by decide +kernel
theorem dX2_fed_0 : decode cX2_fed 0 = .ok (.aload_n 0, 1) := by decide +kernel
theorem dX2_fed_1 : decode cX2_fed 1 = .ok (.getfield 24, 3) := by decide +kernel
theorem dX2_fed_4 : decode cX2_fed 4 = .ok (.iload_n 1, 1) := by decide +kernel
theorem dX2_fed_5 : decode cX2_fed 5 = .ok (.iaload, 1) := by decide +kernel
theorem dX2_fed_6 : decode cX2_fed 6 = .ok (.iconst 1, 1) := by decide +kernel
theorem dX2_fed_7 : decode cX2_fed 7 = .ok (.if_icmp .ne 5, 3) := by decide +kernel
theorem dX2_fed_10 : decode cX2_fed 10 = .ok (.iconst 0, 1) := by decide +kernel
theorem dX2_fed_11 : decode cX2_fed 11 = .ok (.ireturn, 1) := by decide +kernel
theorem dX2_fed_12 : decode cX2_fed 12 = .ok (.aload_n 0, 1) := by decide +kernel
theorem dX2_fed_13 : decode cX2_fed 13 = .ok (.getfield 24, 3) := by decide +kernel
theorem dX2_fed_16 : decode cX2_fed 16 = .ok (.iload_n 1, 1) := by decide +kernel
theorem dX2_fed_17 : decode cX2_fed 17 = .ok (.iaload, 1) := by decide +kernel
theorem dX2_fed_18 : decode cX2_fed 18 = .ok (.iconst 2, 1) := by decide +kernel
theorem dX2_fed_19 : decode cX2_fed 19 = .ok (.if_icmp .ne 7, 3) := by decide +kernel
theorem dX2_fed_22 : decode cX2_fed 22 = .ok (.iload_n 3, 1) := by decide +kernel
theorem dX2_fed_23 : decode cX2_fed 23 = .ok (.goto 4, 3) := by decide +kernel
theorem dX2_fed_26 : decode cX2_fed 26 = .ok (.iload_n 2, 1) := by decide +kernel
theorem dX2_fed_27 : decode cX2_fed 27 = .ok (.ireturn, 1) := by decide +kernel
theorem dX2_changePressure_0 : decode cX2_changePressure 0 = .ok (.aload_n 0, 1) := by decide +kernel
theorem dX2_changePressure_1 : decode cX2_changePressure 1 = .ok (.getfield 21, 3) := by decide +kernel
theorem dX2_changePressure_4 : decode cX2_changePressure 4 = .ok (.iload_n 1, 1) := by decide +kernel
theorem dX2_changePressure_5 : decode cX2_changePressure 5 = .ok (.iload_n 2, 1) := by decide +kernel
theorem dX2_changePressure_6 : decode cX2_changePressure 6 = .ok (.ifCond .eq 21, 3) := by decide +kernel
theorem dX2_changePressure_9 : decode cX2_changePressure 9 = .ok (.aload_n 0, 1) := by decide +kernel
theorem dX2_changePressure_10 : decode cX2_changePressure 10 = .ok (.getfield 21, 3) := by decide +kernel
theorem dX2_changePressure_13 : decode cX2_changePressure 13 = .ok (.iload_n 1, 1) := by decide +kernel
theorem dX2_changePressure_14 : decode cX2_changePressure 14 = .ok (.iaload, 1) := by decide +kernel
theorem dX2_changePressure_15 : decode cX2_changePressure 15 = .ok (.bipush 36, 2) := by decide +kernel
theorem dX2_changePressure_17 : decode cX2_changePressure 17 = .ok (.iadd, 1) := by decide +kernel
theorem dX2_changePressure_18 : decode cX2_changePressure 18 = .ok (.sipush 360, 3) := by decide +kernel
theorem dX2_changePressure_21 : decode cX2_changePressure 21 = .ok (.invokestatic 70, 3) := by decide +kernel
theorem dX2_changePressure_24 : decode cX2_changePressure 24 = .ok (.goto 16, 3) := by decide +kernel
theorem dX2_changePressure_27 : decode cX2_changePressure 27 = .ok (.aload_n 0, 1) := by decide +kernel
theorem dX2_changePressure_28 : decode cX2_changePressure 28 = .ok (.getfield 21, 3) := by decide +kernel
theorem dX2_changePressure_31 : decode cX2_changePressure 31 = .ok (.iload_n 1, 1) := by decide +kernel
theorem dX2_changePressure_32 : decode cX2_changePressure 32 = .ok (.iaload, 1) := by decide +kernel
theorem dX2_changePressure_33 : decode cX2_changePressure 33 = .ok (.bipush 10, 2) := by decide +kernel
theorem dX2_changePressure_35 : decode cX2_changePressure 35 = .ok (.isub, 1) := by decide +kernel
theorem dX2_changePressure_36 : decode cX2_changePressure 36 = .ok (.iconst 0, 1) := by decide +kernel
theorem dX2_changePressure_37 : decode cX2_changePressure 37 = .ok (.invokestatic 50, 3) := by decide +kernel
theorem dX2_changePressure_40 : decode cX2_changePressure 40 = .ok (.iastore, 1) := by decide +kernel
theorem dX2_changePressure_41 : decode cX2_changePressure 41 = .ok (.return_, 1) := by decide +kernel
theorem dX2_full_0 : decode cX2_full 0 = .ok (.aload_n 0, 1) := by decide +kernel
theorem dX2_full_1 : decode cX2_full 1 = .ok (.getfield 21, 3) := by decide +kernel
theorem dX2_full_4 : decode cX2_full 4 = .ok (.iload_n 1, 1) := by decide +kernel
theorem dX2_full_5 : decode cX2_full 5 = .ok (.iaload, 1) := by decide +kernel
theorem dX2_full_6 : decode cX2_full 6 = .ok (.sipush 360, 3) := by decide +kernel
theorem dX2_full_9 : decode cX2_full 9 = .ok (.if_icmp .ne 7, 3) := by decide +kernel
theorem dX2_full_12 : decode cX2_full 12 = .ok (.iconst 1, 1) := by decide +kernel
theorem dX2_full_13 : decode cX2_full 13 = .ok (.goto 4, 3) := by decide +kernel
theorem dX2_full_16 : decode cX2_full 16 = .ok (.iconst 0, 1) := by decide +kernel
theorem dX2_full_17 : decode cX2_full 17 = .ok (.ireturn, 1) := by decide +kernel
theorem dX2_push_0 : decode cX2_push 0 = .ok (.aload_n 0, 1) := by decide +kernel
theorem dX2_push_1 : decode cX2_push 1 = .ok (.iload_n 1, 1) := by decide +kernel
theorem dX2_push_2 : decode cX2_push 2 = .ok (.invokevirtual 73, 3) := by decide +kernel
theorem dX2_push_5 : decode cX2_push 5 = .ok (.invokestatic 88, 3) := by decide +kernel
theorem dX2_push_8 : decode cX2_push 8 = .ok (.aload_n 0, 1) := by decide +kernel
theorem dX2_push_9 : decode cX2_push 9 = .ok (.iload_n 2, 1) := by decide +kernel
theorem dX2_push_10 : decode cX2_push 10 = .ok (.invokevirtual 73, 3) := by decide +kernel
theorem dX2_push_13 : decode cX2_push 13 = .ok (.invokestatic 88, 3) := by decide +kernel
theorem dX2_push_16 : decode cX2_push 16 = .ok (.isub, 1) := by decide +kernel
theorem dX2_push_17 : decode cX2_push 17 = .ok (.ireturn, 1) := by decide +kernel
theorem dX2_shift_0 : decode cX2_shift 0 = .ok (.aload_n 0, 1) := by decide +kernel
theorem dX2_shift_1 : decode cX2_shift 1 = .ok (.getfield 15, 3) := by decide +kernel
theorem dX2_shift_4 : decode cX2_shift 4 = .ok (.iload_n 1, 1) := by decide +kernel
theorem dX2_shift_5 : decode cX2_shift 5 = .ok (.iaload, 1) := by decide +kernel
theorem dX2_shift_6 : decode cX2_shift 6 = .ok (.iload_n 2, 1) := by decide +kernel
theorem dX2_shift_7 : decode cX2_shift 7 = .ok (.iadd, 1) := by decide +kernel
theorem dX2_shift_8 : decode cX2_shift 8 = .ok (.istore_n 3, 1) := by decide +kernel
theorem dX2_shift_9 : decode cX2_shift 9 = .ok (.iload_n 2, 1) := by decide +kernel
theorem dX2_shift_10 : decode cX2_shift 10 = .ok (.ifCond .eq 27, 3) := by decide +kernel
theorem dX2_shift_13 : decode cX2_shift 13 = .ok (.aload_n 0, 1) := by decide +kernel
theorem dX2_shift_14 : decode cX2_shift 14 = .ok (.getfield 18, 3) := by decide +kernel
theorem dX2_shift_17 : decode cX2_shift 17 = .ok (.iload_n 1, 1) := by decide +kernel
theorem dX2_shift_18 : decode cX2_shift 18 = .ok (.iaload, 1) := by decide +kernel
theorem dX2_shift_19 : decode cX2_shift 19 = .ok (.iconst 1, 1) := by decide +kernel
theorem dX2_shift_20 : decode cX2_shift 20 = .ok (.if_icmp .eq 17, 3) := by decide +kernel
theorem dX2_shift_23 : decode cX2_shift 23 = .ok (.iload_n 3, 1) := by decide +kernel
theorem dX2_shift_24 : decode cX2_shift 24 = .ok (.ifCond .lt 13, 3) := by decide +kernel
theorem dX2_shift_27 : decode cX2_shift 27 = .ok (.iload_n 3, 1) := by decide +kernel
theorem dX2_shift_28 : decode cX2_shift 28 = .ok (.aload_n 0, 1) := by decide +kernel
theorem dX2_shift_29 : decode cX2_shift 29 = .ok (.getfield 9, 3) := by decide +kernel
theorem dX2_shift_32 : decode cX2_shift 32 = .ok (.iload_n 1, 1) := by decide +kernel
theorem dX2_shift_33 : decode cX2_shift 33 = .ok (.iaload, 1) := by decide +kernel
theorem dX2_shift_34 : decode cX2_shift 34 = .ok (.if_icmp .le 5, 3) := by decide +kernel
theorem dX2_shift_37 : decode cX2_shift 37 = .ok (.iconst 0, 1) := by decide +kernel
theorem dX2_shift_38 : decode cX2_shift 38 = .ok (.ireturn, 1) := by decide +kernel
theorem dX2_shift_39 : decode cX2_shift 39 = .ok (.aload_n 0, 1) := by decide +kernel
theorem dX2_shift_40 : decode cX2_shift 40 = .ok (.getfield 15, 3) := by decide +kernel
theorem dX2_shift_43 : decode cX2_shift 43 = .ok (.iload_n 1, 1) := by decide +kernel
theorem dX2_shift_44 : decode cX2_shift 44 = .ok (.iload_n 3, 1) := by decide +kernel
theorem dX2_shift_45 : decode cX2_shift 45 = .ok (.iastore, 1) := by decide +kernel
theorem dX2_shift_46 : decode cX2_shift 46 = .ok (.iconst 1, 1) := by decide +kernel
theorem dX2_shift_47 : decode cX2_shift 47 = .ok (.ireturn, 1) := by decide +kernel
theorem dX3_init_0 : decode cX3_init 0 = .ok (.aload_n 0, 1) := by decide +kernel
theorem dX3_init_1 : decode cX3_init 1 = .ok (.invokespecial 3, 3) := by decide +kernel
theorem dX3_init_4 : decode cX3_init 4 = .ok (.aload_n 0, 1) := by decide +kernel
theorem dX3_init_5 : decode cX3_init 5 = .ok (.bipush 18, 2) := by decide +kernel
theorem dX3_init_7 : decode cX3_init 7 = .ok (.newarray .int, 2) := by decide +kernel
theorem dX3_init_9 : decode cX3_init 9 = .ok (.putfield 9, 3) := by decide +kernel
theorem dX3_init_12 : decode cX3_init 12 = .ok (.aload_n 0, 1) := by decide +kernel
theorem dX3_init_13 : decode cX3_init 13 = .ok (.bipush 54, 2) := by decide +kernel
theorem dX3_init_15 : decode cX3_init 15 = .ok (.newarray .int, 2) := by decide +kernel
theorem dX3_init_17 : decode cX3_init 17 = .ok (.putfield 15, 3) := by decide +kernel
theorem dX3_init_20 : decode cX3_init 20 = .ok (.return_, 1) := by decide +kernel
theorem dX3_feel_0 : decode cX3_feel 0 = .ok (.aload_n 0, 1) := by decide +kernel
theorem dX3_feel_1 : decode cX3_feel 1 = .ok (.getfield 9, 3) := by decide +kernel
theorem dX3_feel_4 : decode cX3_feel 4 = .ok (.iconst 0, 1) := by decide +kernel
theorem dX3_feel_5 : decode cX3_feel 5 = .ok (.aload_n 1, 1) := by decide +kernel
theorem dX3_feel_6 : decode cX3_feel 6 = .ok (.getfield 18, 3) := by decide +kernel
theorem dX3_feel_9 : decode cX3_feel 9 = .ok (.iastore, 1) := by decide +kernel
theorem dX3_feel_10 : decode cX3_feel 10 = .ok (.aload_n 0, 1) := by decide +kernel
theorem dX3_feel_11 : decode cX3_feel 11 = .ok (.getfield 9, 3) := by decide +kernel
theorem dX3_feel_14 : decode cX3_feel 14 = .ok (.iconst 1, 1) := by decide +kernel
theorem dX3_feel_15 : decode cX3_feel 15 = .ok (.aload_n 1, 1) := by decide +kernel
theorem dX3_feel_16 : decode cX3_feel 16 = .ok (.getfield 24, 3) := by decide +kernel
theorem dX3_feel_19 : decode cX3_feel 19 = .ok (.bipush 24, 2) := by decide +kernel
theorem dX3_feel_21 : decode cX3_feel 21 = .ok (.if_icmp .ne 7, 3) := by decide +kernel
theorem dX3_feel_24 : decode cX3_feel 24 = .ok (.iconst 1, 1) := by decide +kernel
theorem dX3_feel_25 : decode cX3_feel 25 = .ok (.goto 4, 3) := by decide +kernel
theorem dX3_feel_28 : decode cX3_feel 28 = .ok (.iconst 0, 1) := by decide +kernel
theorem dX3_feel_29 : decode cX3_feel 29 = .ok (.invokestatic 27, 3) := by decide +kernel
theorem dX3_feel_32 : decode cX3_feel 32 = .ok (.iastore, 1) := by decide +kernel
theorem dX3_feel_33 : decode cX3_feel 33 = .ok (.aload_n 0, 1) := by decide +kernel
theorem dX3_feel_34 : decode cX3_feel 34 = .ok (.getfield 9, 3) := by decide +kernel
theorem dX3_feel_37 : decode cX3_feel 37 = .ok (.iconst 2, 1) := by decide +kernel
theorem dX3_feel_38 : decode cX3_feel 38 = .ok (.aload_n 1, 1) := by decide +kernel
theorem dX3_feel_39 : decode cX3_feel 39 = .ok (.getfield 31, 3) := by decide +kernel
theorem dX3_feel_42 : decode cX3_feel 42 = .ok (.iconst 0, 1) := by decide +kernel
theorem dX3_feel_43 : decode cX3_feel 43 = .ok (.iaload, 1) := by decide +kernel
theorem dX3_feel_44 : decode cX3_feel 44 = .ok (.sipush 360, 3) := by decide +kernel
theorem dX3_feel_47 : decode cX3_feel 47 = .ok (.if_icmp .ne 7, 3) := by decide +kernel
theorem dX3_feel_50 : decode cX3_feel 50 = .ok (.iconst 1, 1) := by decide +kernel
theorem dX3_feel_51 : decode cX3_feel 51 = .ok (.goto 4, 3) := by decide +kernel
theorem dX3_feel_54 : decode cX3_feel 54 = .ok (.iconst 0, 1) := by decide +kernel
theorem dX3_feel_55 : decode cX3_feel 55 = .ok (.invokestatic 27, 3) := by decide +kernel
theorem dX3_feel_58 : decode cX3_feel 58 = .ok (.iastore, 1) := by decide +kernel
theorem dX3_feel_59 : decode cX3_feel 59 = .ok (.iconst 0, 1) := by decide +kernel
theorem dX3_feel_60 : decode cX3_feel 60 = .ok (.istore_n 2, 1) := by decide +kernel
theorem dX3_feel_61 : decode cX3_feel 61 = .ok (.iload_n 2, 1) := by decide +kernel
theorem dX3_feel_62 : decode cX3_feel 62 = .ok (.iconst 3, 1) := by decide +kernel
theorem dX3_feel_63 : decode cX3_feel 63 = .ok (.if_icmp .ge 148, 3) := by decide +kernel
theorem dX3_feel_66 : decode cX3_feel 66 = .ok (.iconst 3, 1) := by decide +kernel
theorem dX3_feel_67 : decode cX3_feel 67 = .ok (.iload_n 2, 1) := by decide +kernel
theorem dX3_feel_68 : decode cX3_feel 68 = .ok (.iadd, 1) := by decide +kernel
theorem dX3_feel_69 : decode cX3_feel 69 = .ok (.istore_n 3, 1) := by decide +kernel
theorem dX3_feel_70 : decode cX3_feel 70 = .ok (.aload_n 0, 1) := by decide +kernel
theorem dX3_feel_71 : decode cX3_feel 71 = .ok (.getfield 9, 3) := by decide +kernel
theorem dX3_feel_74 : decode cX3_feel 74 = .ok (.iconst 3, 1) := by decide +kernel
theorem dX3_feel_75 : decode cX3_feel 75 = .ok (.iload_n 2, 1) := by decide +kernel
theorem dX3_feel_76 : decode cX3_feel 76 = .ok (.iadd, 1) := by decide +kernel
theorem dX3_feel_77 : decode cX3_feel 77 = .ok (.aload_n 1, 1) := by decide +kernel
theorem dX3_feel_78 : decode cX3_feel 78 = .ok (.getfield 34, 3) := by decide +kernel
theorem dX3_feel_81 : decode cX3_feel 81 = .ok (.iload_n 2, 1) := by decide +kernel
theorem dX3_feel_82 : decode cX3_feel 82 = .ok (.iaload, 1) := by decide +kernel
theorem dX3_feel_83 : decode cX3_feel 83 = .ok (.ifCond .ne 7, 3) := by decide +kernel
theorem dX3_feel_86 : decode cX3_feel 86 = .ok (.iconst 1, 1) := by decide +kernel
theorem dX3_feel_87 : decode cX3_feel 87 = .ok (.goto 4, 3) := by decide +kernel
theorem dX3_feel_90 : decode cX3_feel 90 = .ok (.iconst 0, 1) := by decide +kernel
theorem dX3_feel_91 : decode cX3_feel 91 = .ok (.invokestatic 27, 3) := by decide +kernel
theorem dX3_feel_94 : decode cX3_feel 94 = .ok (.iastore, 1) := by decide +kernel
theorem dX3_feel_95 : decode cX3_feel 95 = .ok (.aload_n 0, 1) := by decide +kernel
theorem dX3_feel_96 : decode cX3_feel 96 = .ok (.getfield 9, 3) := by decide +kernel
theorem dX3_feel_99 : decode cX3_feel 99 = .ok (.bipush 6, 2) := by decide +kernel
theorem dX3_feel_101 : decode cX3_feel 101 = .ok (.iload_n 2, 1) := by decide +kernel
theorem dX3_feel_102 : decode cX3_feel 102 = .ok (.iadd, 1) := by decide +kernel
theorem dX3_feel_103 : decode cX3_feel 103 = .ok (.aload_n 1, 1) := by decide +kernel
theorem dX3_feel_104 : decode cX3_feel 104 = .ok (.getfield 34, 3) := by decide +kernel
theorem dX3_feel_107 : decode cX3_feel 107 = .ok (.iload_n 2, 1) := by decide +kernel
theorem dX3_feel_108 : decode cX3_feel 108 = .ok (.iaload, 1) := by decide +kernel
theorem dX3_feel_109 : decode cX3_feel 109 = .ok (.aload_n 1, 1) := by decide +kernel
theorem dX3_feel_110 : decode cX3_feel 110 = .ok (.getfield 37, 3) := by decide +kernel
theorem dX3_feel_113 : decode cX3_feel 113 = .ok (.iload_n 2, 1) := by decide +kernel
theorem dX3_feel_114 : decode cX3_feel 114 = .ok (.iaload, 1) := by decide +kernel
theorem dX3_feel_115 : decode cX3_feel 115 = .ok (.if_icmp .ne 7, 3) := by decide +kernel
theorem dX3_feel_118 : decode cX3_feel 118 = .ok (.iconst 1, 1) := by decide +kernel
theorem dX3_feel_119 : decode cX3_feel 119 = .ok (.goto 4, 3) := by decide +kernel
theorem dX3_feel_122 : decode cX3_feel 122 = .ok (.iconst 0, 1) := by decide +kernel
theorem dX3_feel_123 : decode cX3_feel 123 = .ok (.invokestatic 27, 3) := by decide +kernel
theorem dX3_feel_126 : decode cX3_feel 126 = .ok (.iastore, 1) := by decide +kernel
theorem dX3_feel_127 : decode cX3_feel 127 = .ok (.aload_n 0, 1) := by decide +kernel
theorem dX3_feel_128 : decode cX3_feel 128 = .ok (.getfield 9, 3) := by decide +kernel
theorem dX3_feel_131 : decode cX3_feel 131 = .ok (.bipush 9, 2) := by decide +kernel
theorem dX3_feel_133 : decode cX3_feel 133 = .ok (.iload_n 2, 1) := by decide +kernel
theorem dX3_feel_134 : decode cX3_feel 134 = .ok (.iadd, 1) := by decide +kernel
theorem dX3_feel_135 : decode cX3_feel 135 = .ok (.aload_n 1, 1) := by decide +kernel
theorem dX3_feel_136 : decode cX3_feel 136 = .ok (.getfield 34, 3) := by decide +kernel
theorem dX3_feel_139 : decode cX3_feel 139 = .ok (.iload_n 3, 1) := by decide +kernel
theorem dX3_feel_140 : decode cX3_feel 140 = .ok (.iaload, 1) := by decide +kernel
theorem dX3_feel_141 : decode cX3_feel 141 = .ok (.aload_n 1, 1) := by decide +kernel
theorem dX3_feel_142 : decode cX3_feel 142 = .ok (.getfield 37, 3) := by decide +kernel
theorem dX3_feel_145 : decode cX3_feel 145 = .ok (.iload_n 3, 1) := by decide +kernel
theorem dX3_feel_146 : decode cX3_feel 146 = .ok (.iaload, 1) := by decide +kernel
theorem dX3_feel_147 : decode cX3_feel 147 = .ok (.if_icmp .ne 7, 3) := by decide +kernel
theorem dX3_feel_150 : decode cX3_feel 150 = .ok (.iconst 1, 1) := by decide +kernel
theorem dX3_feel_151 : decode cX3_feel 151 = .ok (.goto 4, 3) := by decide +kernel
theorem dX3_feel_154 : decode cX3_feel 154 = .ok (.iconst 0, 1) := by decide +kernel
theorem dX3_feel_155 : decode cX3_feel 155 = .ok (.invokestatic 27, 3) := by decide +kernel
theorem dX3_feel_158 : decode cX3_feel 158 = .ok (.iastore, 1) := by decide +kernel
theorem dX3_feel_159 : decode cX3_feel 159 = .ok (.aload_n 0, 1) := by decide +kernel
theorem dX3_feel_160 : decode cX3_feel 160 = .ok (.getfield 9, 3) := by decide +kernel
theorem dX3_feel_163 : decode cX3_feel 163 = .ok (.bipush 12, 2) := by decide +kernel
theorem dX3_feel_165 : decode cX3_feel 165 = .ok (.iload_n 2, 1) := by decide +kernel
theorem dX3_feel_166 : decode cX3_feel 166 = .ok (.iadd, 1) := by decide +kernel
theorem dX3_feel_167 : decode cX3_feel 167 = .ok (.aload_n 1, 1) := by decide +kernel
theorem dX3_feel_168 : decode cX3_feel 168 = .ok (.getfield 34, 3) := by decide +kernel
theorem dX3_feel_171 : decode cX3_feel 171 = .ok (.iload_n 3, 1) := by decide +kernel
theorem dX3_feel_172 : decode cX3_feel 172 = .ok (.iaload, 1) := by decide +kernel
theorem dX3_feel_173 : decode cX3_feel 173 = .ok (.ifCond .ne 7, 3) := by decide +kernel
theorem dX3_feel_176 : decode cX3_feel 176 = .ok (.iconst 1, 1) := by decide +kernel
theorem dX3_feel_177 : decode cX3_feel 177 = .ok (.goto 4, 3) := by decide +kernel
theorem dX3_feel_180 : decode cX3_feel 180 = .ok (.iconst 0, 1) := by decide +kernel
theorem dX3_feel_181 : decode cX3_feel 181 = .ok (.invokestatic 27, 3) := by decide +kernel
theorem dX3_feel_184 : decode cX3_feel 184 = .ok (.iastore, 1) := by decide +kernel
theorem dX3_feel_185 : decode cX3_feel 185 = .ok (.aload_n 0, 1) := by decide +kernel
theorem dX3_feel_186 : decode cX3_feel 186 = .ok (.getfield 9, 3) := by decide +kernel
theorem dX3_feel_189 : decode cX3_feel 189 = .ok (.bipush 15, 2) := by decide +kernel
theorem dX3_feel_191 : decode cX3_feel 191 = .ok (.iload_n 2, 1) := by decide +kernel
theorem dX3_feel_192 : decode cX3_feel 192 = .ok (.iadd, 1) := by decide +kernel
theorem dX3_feel_193 : decode cX3_feel 193 = .ok (.aload_n 1, 1) := by decide +kernel
theorem dX3_feel_194 : decode cX3_feel 194 = .ok (.getfield 40, 3) := by decide +kernel
theorem dX3_feel_197 : decode cX3_feel 197 = .ok (.iload_n 2, 1) := by decide +kernel
theorem dX3_feel_198 : decode cX3_feel 198 = .ok (.invokestatic 43, 3) := by decide +kernel
theorem dX3_feel_201 : decode cX3_feel 201 = .ok (.invokestatic 27, 3) := by decide +kernel
theorem dX3_feel_204 : decode cX3_feel 204 = .ok (.iastore, 1) := by decide +kernel
theorem dX3_feel_205 : decode cX3_feel 205 = .ok (.iinc 2 1, 3) := by decide +kernel
theorem dX3_feel_208 : decode cX3_feel 208 = .ok (.goto (-147), 3) := by decide +kernel
theorem dX3_feel_211 : decode cX3_feel 211 = .ok (.return_, 1) := by decide +kernel
theorem dX3_told_0 : decode cX3_told 0 = .ok (.aload_n 0, 1) := by decide +kernel
theorem dX3_told_1 : decode cX3_told 1 = .ok (.getfield 15, 3) := by decide +kernel
theorem dX3_told_4 : decode cX3_told 4 = .ok (.iload_n 1, 1) := by decide +kernel
theorem dX3_told_5 : decode cX3_told 5 = .ok (.iconst 3, 1) := by decide +kernel
theorem dX3_told_6 : decode cX3_told 6 = .ok (.imul, 1) := by decide +kernel
theorem dX3_told_7 : decode cX3_told 7 = .ok (.iload_n 2, 1) := by decide +kernel
theorem dX3_told_8 : decode cX3_told 8 = .ok (.iadd, 1) := by decide +kernel
theorem dX3_told_9 : decode cX3_told 9 = .ok (.iaload, 1) := by decide +kernel
theorem dX3_told_10 : decode cX3_told 10 = .ok (.tableswitch 39 1 3 #[26, 28, 30], 26) := by decide +kernel
theorem dX3_told_36 : decode cX3_told 36 = .ok (.iconst 0, 1) := by decide +kernel
theorem dX3_told_37 : decode cX3_told 37 = .ok (.ireturn, 1) := by decide +kernel
theorem dX3_told_38 : decode cX3_told 38 = .ok (.iconst 1, 1) := by decide +kernel
theorem dX3_told_39 : decode cX3_told 39 = .ok (.ireturn, 1) := by decide +kernel
theorem dX3_told_40 : decode cX3_told 40 = .ok (.iconst 1, 1) := by decide +kernel
theorem dX3_told_41 : decode cX3_told 41 = .ok (.aload_n 0, 1) := by decide +kernel
theorem dX3_told_42 : decode cX3_told 42 = .ok (.getfield 9, 3) := by decide +kernel
theorem dX3_told_45 : decode cX3_told 45 = .ok (.iload_n 1, 1) := by decide +kernel
theorem dX3_told_46 : decode cX3_told 46 = .ok (.iaload, 1) := by decide +kernel
theorem dX3_told_47 : decode cX3_told 47 = .ok (.isub, 1) := by decide +kernel
theorem dX3_told_48 : decode cX3_told 48 = .ok (.ireturn, 1) := by decide +kernel
theorem dX3_told_49 : decode cX3_told 49 = .ok (.aload_n 0, 1) := by decide +kernel
theorem dX3_told_50 : decode cX3_told 50 = .ok (.getfield 9, 3) := by decide +kernel
theorem dX3_told_53 : decode cX3_told 53 = .ok (.iload_n 1, 1) := by decide +kernel
theorem dX3_told_54 : decode cX3_told 54 = .ok (.iaload, 1) := by decide +kernel
theorem dX3_told_55 : decode cX3_told 55 = .ok (.ireturn, 1) := by decide +kernel
theorem dX3_toldBits_0 : decode cX3_toldBits 0 = .ok (.aload_n 0, 1) := by decide +kernel
theorem dX3_toldBits_1 : decode cX3_toldBits 1 = .ok (.iload_n 1, 1) := by decide +kernel
theorem dX3_toldBits_2 : decode cX3_toldBits 2 = .ok (.iconst 0, 1) := by decide +kernel
theorem dX3_toldBits_3 : decode cX3_toldBits 3 = .ok (.invokevirtual 47, 3) := by decide +kernel
theorem dX3_toldBits_6 : decode cX3_toldBits 6 = .ok (.aload_n 0, 1) := by decide +kernel
theorem dX3_toldBits_7 : decode cX3_toldBits 7 = .ok (.iload_n 1, 1) := by decide +kernel
theorem dX3_toldBits_8 : decode cX3_toldBits 8 = .ok (.iconst 1, 1) := by decide +kernel
theorem dX3_toldBits_9 : decode cX3_toldBits 9 = .ok (.invokevirtual 47, 3) := by decide +kernel
theorem dX3_toldBits_12 : decode cX3_toldBits 12 = .ok (.iconst 1, 1) := by decide +kernel
theorem dX3_toldBits_13 : decode cX3_toldBits 13 = .ok (.ishl, 1) := by decide +kernel
theorem dX3_toldBits_14 : decode cX3_toldBits 14 = .ok (.ior, 1) := by decide +kernel
theorem dX3_toldBits_15 : decode cX3_toldBits 15 = .ok (.aload_n 0, 1) := by decide +kernel
theorem dX3_toldBits_16 : decode cX3_toldBits 16 = .ok (.iload_n 1, 1) := by decide +kernel
theorem dX3_toldBits_17 : decode cX3_toldBits 17 = .ok (.iconst 2, 1) := by decide +kernel
theorem dX3_toldBits_18 : decode cX3_toldBits 18 = .ok (.invokevirtual 47, 3) := by decide +kernel
theorem dX3_toldBits_21 : decode cX3_toldBits 21 = .ok (.iconst 2, 1) := by decide +kernel
theorem dX3_toldBits_22 : decode cX3_toldBits 22 = .ok (.ishl, 1) := by decide +kernel
theorem dX3_toldBits_23 : decode cX3_toldBits 23 = .ok (.ior, 1) := by decide +kernel
theorem dX3_toldBits_24 : decode cX3_toldBits 24 = .ok (.ireturn, 1) := by decide +kernel
theorem dX4_init_0 : decode cX4_init 0 = .ok (.aload_n 0, 1) := by decide +kernel
theorem dX4_init_1 : decode cX4_init 1 = .ok (.invokespecial 3, 3) := by decide +kernel
theorem dX4_init_4 : decode cX4_init 4 = .ok (.aload_n 0, 1) := by decide +kernel
theorem dX4_init_5 : decode cX4_init 5 = .ok (.bipush 18, 2) := by decide +kernel
theorem dX4_init_7 : decode cX4_init 7 = .ok (.newarray .int, 2) := by decide +kernel
theorem dX4_init_9 : decode cX4_init 9 = .ok (.putfield 9, 3) := by decide +kernel
theorem dX4_init_12 : decode cX4_init 12 = .ok (.aload_n 0, 1) := by decide +kernel
theorem dX4_init_13 : decode cX4_init 13 = .ok (.bipush 18, 2) := by decide +kernel
theorem dX4_init_15 : decode cX4_init 15 = .ok (.newarray .int, 2) := by decide +kernel
theorem dX4_init_17 : decode cX4_init 17 = .ok (.putfield 15, 3) := by decide +kernel
theorem dX4_init_20 : decode cX4_init 20 = .ok (.iconst 0, 1) := by decide +kernel
theorem dX4_init_21 : decode cX4_init 21 = .ok (.istore_n 2, 1) := by decide +kernel
theorem dX4_init_22 : decode cX4_init 22 = .ok (.iload_n 2, 1) := by decide +kernel
theorem dX4_init_23 : decode cX4_init 23 = .ok (.bipush 18, 2) := by decide +kernel
theorem dX4_init_25 : decode cX4_init 25 = .ok (.if_icmp .ge 29, 3) := by decide +kernel
theorem dX4_init_28 : decode cX4_init 28 = .ok (.aload_n 0, 1) := by decide +kernel
theorem dX4_init_29 : decode cX4_init 29 = .ok (.getfield 9, 3) := by decide +kernel
theorem dX4_init_32 : decode cX4_init 32 = .ok (.iload_n 2, 1) := by decide +kernel
theorem dX4_init_33 : decode cX4_init 33 = .ok (.aload_n 1, 1) := by decide +kernel
theorem dX4_init_34 : decode cX4_init 34 = .ok (.getfield 18, 3) := by decide +kernel
theorem dX4_init_37 : decode cX4_init 37 = .ok (.iload_n 2, 1) := by decide +kernel
theorem dX4_init_38 : decode cX4_init 38 = .ok (.iaload, 1) := by decide +kernel
theorem dX4_init_39 : decode cX4_init 39 = .ok (.iastore, 1) := by decide +kernel
theorem dX4_init_40 : decode cX4_init 40 = .ok (.aload_n 0, 1) := by decide +kernel
theorem dX4_init_41 : decode cX4_init 41 = .ok (.getfield 15, 3) := by decide +kernel
theorem dX4_init_44 : decode cX4_init 44 = .ok (.iload_n 2, 1) := by decide +kernel
theorem dX4_init_45 : decode cX4_init 45 = .ok (.bipush 7, 2) := by decide +kernel
theorem dX4_init_47 : decode cX4_init 47 = .ok (.iastore, 1) := by decide +kernel
theorem dX4_init_48 : decode cX4_init 48 = .ok (.iinc 2 1, 3) := by decide +kernel
theorem dX4_init_51 : decode cX4_init 51 = .ok (.goto (-29), 3) := by decide +kernel
theorem dX4_init_54 : decode cX4_init 54 = .ok (.return_, 1) := by decide +kernel
theorem dX4_take_0 : decode cX4_take 0 = .ok (.iconst 0, 1) := by decide +kernel
theorem dX4_take_1 : decode cX4_take 1 = .ok (.istore_n 2, 1) := by decide +kernel
theorem dX4_take_2 : decode cX4_take 2 = .ok (.iload_n 2, 1) := by decide +kernel
theorem dX4_take_3 : decode cX4_take 3 = .ok (.bipush 18, 2) := by decide +kernel
theorem dX4_take_5 : decode cX4_take 5 = .ok (.if_icmp .ge 35, 3) := by decide +kernel
theorem dX4_take_8 : decode cX4_take 8 = .ok (.aload_n 0, 1) := by decide +kernel
theorem dX4_take_9 : decode cX4_take 9 = .ok (.getfield 15, 3) := by decide +kernel
theorem dX4_take_12 : decode cX4_take 12 = .ok (.iload_n 2, 1) := by decide +kernel
theorem dX4_take_13 : decode cX4_take 13 = .ok (.iaload, 1) := by decide +kernel
theorem dX4_take_14 : decode cX4_take 14 = .ok (.ifCond .eq 20, 3) := by decide +kernel
theorem dX4_take_17 : decode cX4_take 17 = .ok (.aload_n 0, 1) := by decide +kernel
theorem dX4_take_18 : decode cX4_take 18 = .ok (.iload_n 2, 1) := by decide +kernel
theorem dX4_take_19 : decode cX4_take 19 = .ok (.aload_n 1, 1) := by decide +kernel
theorem dX4_take_20 : decode cX4_take 20 = .ok (.iload_n 2, 1) := by decide +kernel
theorem dX4_take_21 : decode cX4_take 21 = .ok (.invokevirtual 23, 3) := by decide +kernel
theorem dX4_take_24 : decode cX4_take 24 = .ok (.aload_n 0, 1) := by decide +kernel
theorem dX4_take_25 : decode cX4_take 25 = .ok (.getfield 15, 3) := by decide +kernel
theorem dX4_take_28 : decode cX4_take 28 = .ok (.iload_n 2, 1) := by decide +kernel
theorem dX4_take_29 : decode cX4_take 29 = .ok (.iaload, 1) := by decide +kernel
theorem dX4_take_30 : decode cX4_take 30 = .ok (.iand, 1) := by decide +kernel
theorem dX4_take_31 : decode cX4_take 31 = .ok (.invokevirtual 27, 3) := by decide +kernel
theorem dX4_take_34 : decode cX4_take 34 = .ok (.iinc 2 1, 3) := by decide +kernel
theorem dX4_take_37 : decode cX4_take 37 = .ok (.goto (-35), 3) := by decide +kernel
theorem dX4_take_40 : decode cX4_take 40 = .ok (.return_, 1) := by decide +kernel
theorem dX4_takeOne_0 : decode cX4_takeOne 0 = .ok (.iload_n 2, 1) := by decide +kernel
theorem dX4_takeOne_1 : decode cX4_takeOne 1 = .ok (.aload_n 0, 1) := by decide +kernel
theorem dX4_takeOne_2 : decode cX4_takeOne 2 = .ok (.getfield 15, 3) := by decide +kernel
theorem dX4_takeOne_5 : decode cX4_takeOne 5 = .ok (.iload_n 1, 1) := by decide +kernel
theorem dX4_takeOne_6 : decode cX4_takeOne 6 = .ok (.iaload, 1) := by decide +kernel
theorem dX4_takeOne_7 : decode cX4_takeOne 7 = .ok (.if_icmp .eq 7, 3) := by decide +kernel
theorem dX4_takeOne_10 : decode cX4_takeOne 10 = .ok (.iload_n 2, 1) := by decide +kernel
theorem dX4_takeOne_11 : decode cX4_takeOne 11 = .ok (.ifCond .ne 24, 3) := by decide +kernel
theorem dX4_takeOne_14 : decode cX4_takeOne 14 = .ok (.aload_n 0, 1) := by decide +kernel
theorem dX4_takeOne_15 : decode cX4_takeOne 15 = .ok (.getfield 9, 3) := by decide +kernel
theorem dX4_takeOne_18 : decode cX4_takeOne 18 = .ok (.iload_n 1, 1) := by decide +kernel
theorem dX4_takeOne_19 : decode cX4_takeOne 19 = .ok (.iload_n 2, 1) := by decide +kernel
theorem dX4_takeOne_20 : decode cX4_takeOne 20 = .ok (.ifCond .eq 7, 3) := by decide +kernel
theorem dX4_takeOne_23 : decode cX4_takeOne 23 = .ok (.iconst 1, 1) := by decide +kernel
theorem dX4_takeOne_24 : decode cX4_takeOne 24 = .ok (.goto 4, 3) := by decide +kernel
theorem dX4_takeOne_27 : decode cX4_takeOne 27 = .ok (.iconst 0, 1) := by decide +kernel
theorem dX4_takeOne_28 : decode cX4_takeOne 28 = .ok (.invokestatic 31, 3) := by decide +kernel
theorem dX4_takeOne_31 : decode cX4_takeOne 31 = .ok (.iastore, 1) := by decide +kernel
theorem dX4_takeOne_32 : decode cX4_takeOne 32 = .ok (.goto 70, 3) := by decide +kernel
theorem dX4_takeOne_35 : decode cX4_takeOne 35 = .ok (.aload_n 0, 1) := by decide +kernel
theorem dX4_takeOne_36 : decode cX4_takeOne 36 = .ok (.getfield 15, 3) := by decide +kernel
theorem dX4_takeOne_39 : decode cX4_takeOne 39 = .ok (.iload_n 1, 1) := by decide +kernel
theorem dX4_takeOne_40 : decode cX4_takeOne 40 = .ok (.iaload, 1) := by decide +kernel
theorem dX4_takeOne_41 : decode cX4_takeOne 41 = .ok (.bipush 7, 2) := by decide +kernel
theorem dX4_takeOne_43 : decode cX4_takeOne 43 = .ok (.if_icmp .ne 52, 3) := by decide +kernel
theorem dX4_takeOne_46 : decode cX4_takeOne 46 = .ok (.aload_n 0, 1) := by decide +kernel
theorem dX4_takeOne_47 : decode cX4_takeOne 47 = .ok (.getfield 9, 3) := by decide +kernel
theorem dX4_takeOne_50 : decode cX4_takeOne 50 = .ok (.iload_n 1, 1) := by decide +kernel
theorem dX4_takeOne_51 : decode cX4_takeOne 51 = .ok (.iload_n 2, 1) := by decide +kernel
theorem dX4_takeOne_52 : decode cX4_takeOne 52 = .ok (.invokestatic 35, 3) := by decide +kernel
theorem dX4_takeOne_55 : decode cX4_takeOne 55 = .ok (.iconst 2, 1) := by decide +kernel
theorem dX4_takeOne_56 : decode cX4_takeOne 56 = .ok (.if_icmp .ne 7, 3) := by decide +kernel
theorem dX4_takeOne_59 : decode cX4_takeOne 59 = .ok (.iconst 1, 1) := by decide +kernel
theorem dX4_takeOne_60 : decode cX4_takeOne 60 = .ok (.goto 4, 3) := by decide +kernel
theorem dX4_takeOne_63 : decode cX4_takeOne 63 = .ok (.iconst 0, 1) := by decide +kernel
theorem dX4_takeOne_64 : decode cX4_takeOne 64 = .ok (.invokestatic 31, 3) := by decide +kernel
theorem dX4_takeOne_67 : decode cX4_takeOne 67 = .ok (.iastore, 1) := by decide +kernel
theorem dX4_takeOne_68 : decode cX4_takeOne 68 = .ok (.aload_n 0, 1) := by decide +kernel
theorem dX4_takeOne_69 : decode cX4_takeOne 69 = .ok (.getfield 15, 3) := by decide +kernel
theorem dX4_takeOne_72 : decode cX4_takeOne 72 = .ok (.iload_n 1, 1) := by decide +kernel
theorem dX4_takeOne_73 : decode cX4_takeOne 73 = .ok (.aload_n 0, 1) := by decide +kernel
theorem dX4_takeOne_74 : decode cX4_takeOne 74 = .ok (.getfield 9, 3) := by decide +kernel
theorem dX4_takeOne_77 : decode cX4_takeOne 77 = .ok (.iload_n 1, 1) := by decide +kernel
theorem dX4_takeOne_78 : decode cX4_takeOne 78 = .ok (.iaload, 1) := by decide +kernel
theorem dX4_takeOne_79 : decode cX4_takeOne 79 = .ok (.iconst 1, 1) := by decide +kernel
theorem dX4_takeOne_80 : decode cX4_takeOne 80 = .ok (.if_icmp .ne 7, 3) := by decide +kernel
theorem dX4_takeOne_83 : decode cX4_takeOne 83 = .ok (.iload_n 2, 1) := by decide +kernel
theorem dX4_takeOne_84 : decode cX4_takeOne 84 = .ok (.goto 7, 3) := by decide +kernel
theorem dX4_takeOne_87 : decode cX4_takeOne 87 = .ok (.bipush 7, 2) := by decide +kernel
theorem dX4_takeOne_89 : decode cX4_takeOne 89 = .ok (.iload_n 2, 1) := by decide +kernel
theorem dX4_takeOne_90 : decode cX4_takeOne 90 = .ok (.isub, 1) := by decide +kernel
theorem dX4_takeOne_91 : decode cX4_takeOne 91 = .ok (.iastore, 1) := by decide +kernel
theorem dX4_takeOne_92 : decode cX4_takeOne 92 = .ok (.goto 10, 3) := by decide +kernel
theorem dX4_takeOne_95 : decode cX4_takeOne 95 = .ok (.aload_n 0, 1) := by decide +kernel
theorem dX4_takeOne_96 : decode cX4_takeOne 96 = .ok (.getfield 15, 3) := by decide +kernel
theorem dX4_takeOne_99 : decode cX4_takeOne 99 = .ok (.iload_n 1, 1) := by decide +kernel
theorem dX4_takeOne_100 : decode cX4_takeOne 100 = .ok (.iconst 0, 1) := by decide +kernel
theorem dX4_takeOne_101 : decode cX4_takeOne 101 = .ok (.iastore, 1) := by decide +kernel
theorem dX4_takeOne_102 : decode cX4_takeOne 102 = .ok (.return_, 1) := by decide +kernel
theorem dX4_isSeen_0 : decode cX4_isSeen 0 = .ok (.aload_n 0, 1) := by decide +kernel
theorem dX4_isSeen_1 : decode cX4_isSeen 1 = .ok (.getfield 9, 3) := by decide +kernel
theorem dX4_isSeen_4 : decode cX4_isSeen 4 = .ok (.iload_n 1, 1) := by decide +kernel
theorem dX4_isSeen_5 : decode cX4_isSeen 5 = .ok (.iaload, 1) := by decide +kernel
theorem dX4_isSeen_6 : decode cX4_isSeen 6 = .ok (.iconst 1, 1) := by decide +kernel
theorem dX4_isSeen_7 : decode cX4_isSeen 7 = .ok (.if_icmp .ne 7, 3) := by decide +kernel
theorem dX4_isSeen_10 : decode cX4_isSeen 10 = .ok (.iconst 1, 1) := by decide +kernel
theorem dX4_isSeen_11 : decode cX4_isSeen 11 = .ok (.goto 4, 3) := by decide +kernel
theorem dX4_isSeen_14 : decode cX4_isSeen 14 = .ok (.iconst 0, 1) := by decide +kernel
theorem dX4_isSeen_15 : decode cX4_isSeen 15 = .ok (.ireturn, 1) := by decide +kernel
theorem dX4_allSeen_0 : decode cX4_allSeen 0 = .ok (.aload_n 0, 1) := by decide +kernel
theorem dX4_allSeen_1 : decode cX4_allSeen 1 = .ok (.getfield 9, 3) := by decide +kernel
theorem dX4_allSeen_4 : decode cX4_allSeen 4 = .ok (.iload_n 1, 1) := by decide +kernel
theorem dX4_allSeen_5 : decode cX4_allSeen 5 = .ok (.iaload, 1) := by decide +kernel
theorem dX4_allSeen_6 : decode cX4_allSeen 6 = .ok (.iconst 1, 1) := by decide +kernel
theorem dX4_allSeen_7 : decode cX4_allSeen 7 = .ok (.if_icmp .ne 31, 3) := by decide +kernel
theorem dX4_allSeen_10 : decode cX4_allSeen 10 = .ok (.aload_n 0, 1) := by decide +kernel
theorem dX4_allSeen_11 : decode cX4_allSeen 11 = .ok (.getfield 9, 3) := by decide +kernel
theorem dX4_allSeen_14 : decode cX4_allSeen 14 = .ok (.iload_n 1, 1) := by decide +kernel
theorem dX4_allSeen_15 : decode cX4_allSeen 15 = .ok (.iconst 1, 1) := by decide +kernel
theorem dX4_allSeen_16 : decode cX4_allSeen 16 = .ok (.iadd, 1) := by decide +kernel
theorem dX4_allSeen_17 : decode cX4_allSeen 17 = .ok (.iaload, 1) := by decide +kernel
theorem dX4_allSeen_18 : decode cX4_allSeen 18 = .ok (.iconst 1, 1) := by decide +kernel
theorem dX4_allSeen_19 : decode cX4_allSeen 19 = .ok (.if_icmp .ne 19, 3) := by decide +kernel
theorem dX4_allSeen_22 : decode cX4_allSeen 22 = .ok (.aload_n 0, 1) := by decide +kernel
theorem dX4_allSeen_23 : decode cX4_allSeen 23 = .ok (.getfield 9, 3) := by decide +kernel
theorem dX4_allSeen_26 : decode cX4_allSeen 26 = .ok (.iload_n 1, 1) := by decide +kernel
theorem dX4_allSeen_27 : decode cX4_allSeen 27 = .ok (.iconst 2, 1) := by decide +kernel
theorem dX4_allSeen_28 : decode cX4_allSeen 28 = .ok (.iadd, 1) := by decide +kernel
theorem dX4_allSeen_29 : decode cX4_allSeen 29 = .ok (.iaload, 1) := by decide +kernel
theorem dX4_allSeen_30 : decode cX4_allSeen 30 = .ok (.iconst 1, 1) := by decide +kernel
theorem dX4_allSeen_31 : decode cX4_allSeen 31 = .ok (.if_icmp .ne 7, 3) := by decide +kernel
theorem dX4_allSeen_34 : decode cX4_allSeen 34 = .ok (.iconst 1, 1) := by decide +kernel
theorem dX4_allSeen_35 : decode cX4_allSeen 35 = .ok (.goto 4, 3) := by decide +kernel
theorem dX4_allSeen_38 : decode cX4_allSeen 38 = .ok (.iconst 0, 1) := by decide +kernel
theorem dX4_allSeen_39 : decode cX4_allSeen 39 = .ok (.ireturn, 1) := by decide +kernel
theorem dX4_someSeen_0 : decode cX4_someSeen 0 = .ok (.aload_n 0, 1) := by decide +kernel
theorem dX4_someSeen_1 : decode cX4_someSeen 1 = .ok (.getfield 9, 3) := by decide +kernel
theorem dX4_someSeen_4 : decode cX4_someSeen 4 = .ok (.iload_n 1, 1) := by decide +kernel
theorem dX4_someSeen_5 : decode cX4_someSeen 5 = .ok (.iaload, 1) := by decide +kernel
theorem dX4_someSeen_6 : decode cX4_someSeen 6 = .ok (.iconst 1, 1) := by decide +kernel
theorem dX4_someSeen_7 : decode cX4_someSeen 7 = .ok (.if_icmp .eq 27, 3) := by decide +kernel
theorem dX4_someSeen_10 : decode cX4_someSeen 10 = .ok (.aload_n 0, 1) := by decide +kernel
theorem dX4_someSeen_11 : decode cX4_someSeen 11 = .ok (.getfield 9, 3) := by decide +kernel
theorem dX4_someSeen_14 : decode cX4_someSeen 14 = .ok (.iload_n 1, 1) := by decide +kernel
theorem dX4_someSeen_15 : decode cX4_someSeen 15 = .ok (.iconst 1, 1) := by decide +kernel
theorem dX4_someSeen_16 : decode cX4_someSeen 16 = .ok (.iadd, 1) := by decide +kernel
theorem dX4_someSeen_17 : decode cX4_someSeen 17 = .ok (.iaload, 1) := by decide +kernel
theorem dX4_someSeen_18 : decode cX4_someSeen 18 = .ok (.iconst 1, 1) := by decide +kernel
theorem dX4_someSeen_19 : decode cX4_someSeen 19 = .ok (.if_icmp .eq 15, 3) := by decide +kernel
theorem dX4_someSeen_22 : decode cX4_someSeen 22 = .ok (.aload_n 0, 1) := by decide +kernel
theorem dX4_someSeen_23 : decode cX4_someSeen 23 = .ok (.getfield 9, 3) := by decide +kernel
theorem dX4_someSeen_26 : decode cX4_someSeen 26 = .ok (.iload_n 1, 1) := by decide +kernel
theorem dX4_someSeen_27 : decode cX4_someSeen 27 = .ok (.iconst 2, 1) := by decide +kernel
theorem dX4_someSeen_28 : decode cX4_someSeen 28 = .ok (.iadd, 1) := by decide +kernel
theorem dX4_someSeen_29 : decode cX4_someSeen 29 = .ok (.iaload, 1) := by decide +kernel
theorem dX4_someSeen_30 : decode cX4_someSeen 30 = .ok (.iconst 1, 1) := by decide +kernel
theorem dX4_someSeen_31 : decode cX4_someSeen 31 = .ok (.if_icmp .ne 7, 3) := by decide +kernel
theorem dX4_someSeen_34 : decode cX4_someSeen 34 = .ok (.iconst 1, 1) := by decide +kernel
theorem dX4_someSeen_35 : decode cX4_someSeen 35 = .ok (.goto 4, 3) := by decide +kernel
theorem dX4_someSeen_38 : decode cX4_someSeen 38 = .ok (.iconst 0, 1) := by decide +kernel
theorem dX4_someSeen_39 : decode cX4_someSeen 39 = .ok (.ireturn, 1) := by decide +kernel
theorem dX4_someInvalid_0 : decode cX4_someInvalid 0 = .ok (.iconst 0, 1) := by decide +kernel
theorem dX4_someInvalid_1 : decode cX4_someInvalid 1 = .ok (.istore_n 1, 1) := by decide +kernel
theorem dX4_someInvalid_2 : decode cX4_someInvalid 2 = .ok (.iload_n 1, 1) := by decide +kernel
theorem dX4_someInvalid_3 : decode cX4_someInvalid 3 = .ok (.bipush 18, 2) := by decide +kernel
theorem dX4_someInvalid_5 : decode cX4_someInvalid 5 = .ok (.if_icmp .ge 20, 3) := by decide +kernel
theorem dX4_someInvalid_8 : decode cX4_someInvalid 8 = .ok (.aload_n 0, 1) := by decide +kernel
theorem dX4_someInvalid_9 : decode cX4_someInvalid 9 = .ok (.getfield 15, 3) := by decide +kernel
theorem dX4_someInvalid_12 : decode cX4_someInvalid 12 = .ok (.iload_n 1, 1) := by decide +kernel
theorem dX4_someInvalid_13 : decode cX4_someInvalid 13 = .ok (.iaload, 1) := by decide +kernel
theorem dX4_someInvalid_14 : decode cX4_someInvalid 14 = .ok (.ifCond .ne 5, 3) := by decide +kernel
theorem dX4_someInvalid_17 : decode cX4_someInvalid 17 = .ok (.iconst 1, 1) := by decide +kernel
theorem dX4_someInvalid_18 : decode cX4_someInvalid 18 = .ok (.ireturn, 1) := by decide +kernel
theorem dX4_someInvalid_19 : decode cX4_someInvalid 19 = .ok (.iinc 1 1, 3) := by decide +kernel
theorem dX4_someInvalid_22 : decode cX4_someInvalid 22 = .ok (.goto (-20), 3) := by decide +kernel
theorem dX4_someInvalid_25 : decode cX4_someInvalid 25 = .ok (.iconst 0, 1) := by decide +kernel
theorem dX4_someInvalid_26 : decode cX4_someInvalid 26 = .ok (.ireturn, 1) := by decide +kernel
theorem dX5_init_0 : decode cX5_init 0 = .ok (.aload_n 0, 1) := by decide +kernel
theorem dX5_init_1 : decode cX5_init 1 = .ok (.invokespecial 3, 3) := by decide +kernel
theorem dX5_init_4 : decode cX5_init 4 = .ok (.aload_n 0, 1) := by decide +kernel
theorem dX5_init_5 : decode cX5_init 5 = .ok (.iconst 5, 1) := by decide +kernel
theorem dX5_init_6 : decode cX5_init 6 = .ok (.newarray .int, 2) := by decide +kernel
theorem dX5_init_8 : decode cX5_init 8 = .ok (.putfield 9, 3) := by decide +kernel
theorem dX5_init_11 : decode cX5_init 11 = .ok (.aload_n 0, 1) := by decide +kernel
theorem dX5_init_12 : decode cX5_init 12 = .ok (.iconst 0, 1) := by decide +kernel
theorem dX5_init_13 : decode cX5_init 13 = .ok (.putfield 15, 3) := by decide +kernel
theorem dX5_init_16 : decode cX5_init 16 = .ok (.aload_n 0, 1) := by decide +kernel
theorem dX5_init_17 : decode cX5_init 17 = .ok (.sipush 216, 3) := by decide +kernel
theorem dX5_init_20 : decode cX5_init 20 = .ok (.putfield 19, 3) := by decide +kernel
theorem dX5_init_23 : decode cX5_init 23 = .ok (.return_, 1) := by decide +kernel
theorem dX5_count_0 : decode cX5_count 0 = .ok (.aload_n 0, 1) := by decide +kernel
theorem dX5_count_1 : decode cX5_count 1 = .ok (.iload_n 2, 1) := by decide +kernel
theorem dX5_count_2 : decode cX5_count 2 = .ok (.ifCond .eq 7, 3) := by decide +kernel
theorem dX5_count_5 : decode cX5_count 5 = .ok (.iconst 0, 1) := by decide +kernel
theorem dX5_count_6 : decode cX5_count 6 = .ok (.goto 15, 3) := by decide +kernel
theorem dX5_count_9 : decode cX5_count 9 = .ok (.aload_n 0, 1) := by decide +kernel
theorem dX5_count_10 : decode cX5_count 10 = .ok (.getfield 19, 3) := by decide +kernel
theorem dX5_count_13 : decode cX5_count 13 = .ok (.iconst 1, 1) := by decide +kernel
theorem dX5_count_14 : decode cX5_count 14 = .ok (.iadd, 1) := by decide +kernel
theorem dX5_count_15 : decode cX5_count 15 = .ok (.sipush 216, 3) := by decide +kernel
theorem dX5_count_18 : decode cX5_count 18 = .ok (.invokestatic 22, 3) := by decide +kernel
theorem dX5_count_21 : decode cX5_count 21 = .ok (.putfield 19, 3) := by decide +kernel
theorem dX5_count_24 : decode cX5_count 24 = .ok (.iconst 0, 1) := by decide +kernel
theorem dX5_count_25 : decode cX5_count 25 = .ok (.istore_n 3, 1) := by decide +kernel
theorem dX5_count_26 : decode cX5_count 26 = .ok (.iload_n 3, 1) := by decide +kernel
theorem dX5_count_27 : decode cX5_count 27 = .ok (.iconst 5, 1) := by decide +kernel
theorem dX5_count_28 : decode cX5_count 28 = .ok (.if_icmp .ge 35, 3) := by decide +kernel
theorem dX5_count_31 : decode cX5_count 31 = .ok (.aload_n 0, 1) := by decide +kernel
theorem dX5_count_32 : decode cX5_count 32 = .ok (.getfield 9, 3) := by decide +kernel
theorem dX5_count_35 : decode cX5_count 35 = .ok (.iload_n 3, 1) := by decide +kernel
theorem dX5_count_36 : decode cX5_count 36 = .ok (.iload_n 1, 1) := by decide +kernel
theorem dX5_count_37 : decode cX5_count 37 = .ok (.iload_n 3, 1) := by decide +kernel
theorem dX5_count_38 : decode cX5_count 38 = .ok (.invokestatic 28, 3) := by decide +kernel
theorem dX5_count_41 : decode cX5_count 41 = .ok (.ifCond .eq 14, 3) := by decide +kernel
theorem dX5_count_44 : decode cX5_count 44 = .ok (.aload_n 0, 1) := by decide +kernel
theorem dX5_count_45 : decode cX5_count 45 = .ok (.getfield 9, 3) := by decide +kernel
theorem dX5_count_48 : decode cX5_count 48 = .ok (.iload_n 3, 1) := by decide +kernel
theorem dX5_count_49 : decode cX5_count 49 = .ok (.iaload, 1) := by decide +kernel
theorem dX5_count_50 : decode cX5_count 50 = .ok (.iconst 1, 1) := by decide +kernel
theorem dX5_count_51 : decode cX5_count 51 = .ok (.iadd, 1) := by decide +kernel
theorem dX5_count_52 : decode cX5_count 52 = .ok (.goto 4, 3) := by decide +kernel
theorem dX5_count_55 : decode cX5_count 55 = .ok (.iconst 0, 1) := by decide +kernel
theorem dX5_count_56 : decode cX5_count 56 = .ok (.iastore, 1) := by decide +kernel
theorem dX5_count_57 : decode cX5_count 57 = .ok (.iinc 3 1, 3) := by decide +kernel
theorem dX5_count_60 : decode cX5_count 60 = .ok (.goto (-34), 3) := by decide +kernel
theorem dX5_count_63 : decode cX5_count 63 = .ok (.aload_n 0, 1) := by decide +kernel
theorem dX5_count_64 : decode cX5_count 64 = .ok (.iload_n 1, 1) := by decide +kernel
theorem dX5_count_65 : decode cX5_count 65 = .ok (.iconst 0, 1) := by decide +kernel
theorem dX5_count_66 : decode cX5_count 66 = .ok (.invokestatic 28, 3) := by decide +kernel
theorem dX5_count_69 : decode cX5_count 69 = .ok (.ifCond .eq 7, 3) := by decide +kernel
theorem dX5_count_72 : decode cX5_count 72 = .ok (.iconst 0, 1) := by decide +kernel
theorem dX5_count_73 : decode cX5_count 73 = .ok (.goto 9, 3) := by decide +kernel
theorem dX5_count_76 : decode cX5_count 76 = .ok (.aload_n 0, 1) := by decide +kernel
theorem dX5_count_77 : decode cX5_count 77 = .ok (.getfield 15, 3) := by decide +kernel
theorem dX5_count_80 : decode cX5_count 80 = .ok (.iconst 1, 1) := by decide +kernel
theorem dX5_count_81 : decode cX5_count 81 = .ok (.iadd, 1) := by decide +kernel
theorem dX5_count_82 : decode cX5_count 82 = .ok (.putfield 15, 3) := by decide +kernel
theorem dX5_count_85 : decode cX5_count 85 = .ok (.return_, 1) := by decide +kernel
theorem dX5_firstCause_0 : decode cX5_firstCause 0 = .ok (.aload_n 1, 1) := by decide +kernel
theorem dX5_firstCause_1 : decode cX5_firstCause 1 = .ok (.invokevirtual 32, 3) := by decide +kernel
theorem dX5_firstCause_4 : decode cX5_firstCause 4 = .ok (.ifCond .eq 5, 3) := by decide +kernel
theorem dX5_firstCause_7 : decode cX5_firstCause 7 = .ok (.iconst 1, 1) := by decide +kernel
theorem dX5_firstCause_8 : decode cX5_firstCause 8 = .ok (.ireturn, 1) := by decide +kernel
theorem dX5_firstCause_9 : decode cX5_firstCause 9 = .ok (.aload_n 0, 1) := by decide +kernel
theorem dX5_firstCause_10 : decode cX5_firstCause 10 = .ok (.aload_n 1, 1) := by decide +kernel
theorem dX5_firstCause_11 : decode cX5_firstCause 11 = .ok (.invokevirtual 38, 3) := by decide +kernel
theorem dX5_firstCause_14 : decode cX5_firstCause 14 = .ok (.istore_n 2, 1) := by decide +kernel
theorem dX5_firstCause_15 : decode cX5_firstCause 15 = .ok (.iload_n 2, 1) := by decide +kernel
theorem dX5_firstCause_16 : decode cX5_firstCause 16 = .ok (.ifCond .ne 9, 3) := by decide +kernel
theorem dX5_firstCause_19 : decode cX5_firstCause 19 = .ok (.aload_n 0, 1) := by decide +kernel
theorem dX5_firstCause_20 : decode cX5_firstCause 20 = .ok (.aload_n 1, 1) := by decide +kernel
theorem dX5_firstCause_21 : decode cX5_firstCause 21 = .ok (.invokevirtual 42, 3) := by decide +kernel
theorem dX5_firstCause_24 : decode cX5_firstCause 24 = .ok (.istore_n 2, 1) := by decide +kernel
theorem dX5_firstCause_25 : decode cX5_firstCause 25 = .ok (.iload_n 2, 1) := by decide +kernel
theorem dX5_firstCause_26 : decode cX5_firstCause 26 = .ok (.ifCond .ne 11, 3) := by decide +kernel
theorem dX5_firstCause_29 : decode cX5_firstCause 29 = .ok (.aload_n 0, 1) := by decide +kernel
theorem dX5_firstCause_30 : decode cX5_firstCause 30 = .ok (.aload_n 1, 1) := by decide +kernel
theorem dX5_firstCause_31 : decode cX5_firstCause 31 = .ok (.invokevirtual 45, 3) := by decide +kernel
theorem dX5_firstCause_34 : decode cX5_firstCause 34 = .ok (.goto 4, 3) := by decide +kernel
theorem dX5_firstCause_37 : decode cX5_firstCause 37 = .ok (.iload_n 2, 1) := by decide +kernel
theorem dX5_firstCause_38 : decode cX5_firstCause 38 = .ok (.ireturn, 1) := by decide +kernel
theorem dX5_causeOfPower_0 : decode cX5_causeOfPower 0 = .ok (.aload_n 1, 1) := by decide +kernel
theorem dX5_causeOfPower_1 : decode cX5_causeOfPower 1 = .ok (.iconst 1, 1) := by decide +kernel
theorem dX5_causeOfPower_2 : decode cX5_causeOfPower 2 = .ok (.invokevirtual 48, 3) := by decide +kernel
theorem dX5_causeOfPower_5 : decode cX5_causeOfPower 5 = .ok (.istore_n 2, 1) := by decide +kernel
theorem dX5_causeOfPower_6 : decode cX5_causeOfPower 6 = .ok (.aload_n 0, 1) := by decide +kernel
theorem dX5_causeOfPower_7 : decode cX5_causeOfPower 7 = .ok (.getfield 19, 3) := by decide +kernel
theorem dX5_causeOfPower_10 : decode cX5_causeOfPower 10 = .ok (.bipush 10, 2) := by decide +kernel
theorem dX5_causeOfPower_12 : decode cX5_causeOfPower 12 = .ok (.if_icmp .ne 9, 3) := by decide +kernel
theorem dX5_causeOfPower_15 : decode cX5_causeOfPower 15 = .ok (.iload_n 2, 1) := by decide +kernel
theorem dX5_causeOfPower_16 : decode cX5_causeOfPower 16 = .ok (.ifCond .ne 5, 3) := by decide +kernel
theorem dX5_causeOfPower_19 : decode cX5_causeOfPower 19 = .ok (.iconst 2, 1) := by decide +kernel
theorem dX5_causeOfPower_20 : decode cX5_causeOfPower 20 = .ok (.ireturn, 1) := by decide +kernel
theorem dX5_causeOfPower_21 : decode cX5_causeOfPower 21 = .ok (.aload_n 0, 1) := by decide +kernel
theorem dX5_causeOfPower_22 : decode cX5_causeOfPower 22 = .ok (.getfield 19, 3) := by decide +kernel
theorem dX5_causeOfPower_25 : decode cX5_causeOfPower 25 = .ok (.sipush 216, 3) := by decide +kernel
theorem dX5_causeOfPower_28 : decode cX5_causeOfPower 28 = .ok (.if_icmp .lt 9, 3) := by decide +kernel
theorem dX5_causeOfPower_31 : decode cX5_causeOfPower 31 = .ok (.iload_n 2, 1) := by decide +kernel
theorem dX5_causeOfPower_32 : decode cX5_causeOfPower 32 = .ok (.ifCond .eq 5, 3) := by decide +kernel
theorem dX5_causeOfPower_35 : decode cX5_causeOfPower 35 = .ok (.iconst 3, 1) := by decide +kernel
theorem dX5_causeOfPower_36 : decode cX5_causeOfPower 36 = .ok (.ireturn, 1) := by decide +kernel
theorem dX5_causeOfPower_37 : decode cX5_causeOfPower 37 = .ok (.aload_n 1, 1) := by decide +kernel
theorem dX5_causeOfPower_38 : decode cX5_causeOfPower 38 = .ok (.iconst 2, 1) := by decide +kernel
theorem dX5_causeOfPower_39 : decode cX5_causeOfPower 39 = .ok (.invokevirtual 48, 3) := by decide +kernel
theorem dX5_causeOfPower_42 : decode cX5_causeOfPower 42 = .ok (.istore_n 3, 1) := by decide +kernel
theorem dX5_causeOfPower_43 : decode cX5_causeOfPower 43 = .ok (.aload_n 0, 1) := by decide +kernel
theorem dX5_causeOfPower_44 : decode cX5_causeOfPower 44 = .ok (.getfield 9, 3) := by decide +kernel
theorem dX5_causeOfPower_47 : decode cX5_causeOfPower 47 = .ok (.iconst 0, 1) := by decide +kernel
theorem dX5_causeOfPower_48 : decode cX5_causeOfPower 48 = .ok (.iaload, 1) := by decide +kernel
theorem dX5_causeOfPower_49 : decode cX5_causeOfPower 49 = .ok (.bipush 30, 2) := by decide +kernel
theorem dX5_causeOfPower_51 : decode cX5_causeOfPower 51 = .ok (.if_icmp .lt 9, 3) := by decide +kernel
theorem dX5_causeOfPower_54 : decode cX5_causeOfPower 54 = .ok (.iload_n 3, 1) := by decide +kernel
theorem dX5_causeOfPower_55 : decode cX5_causeOfPower 55 = .ok (.ifCond .ne 5, 3) := by decide +kernel
theorem dX5_causeOfPower_58 : decode cX5_causeOfPower 58 = .ok (.iconst 4, 1) := by decide +kernel
theorem dX5_causeOfPower_59 : decode cX5_causeOfPower 59 = .ok (.ireturn, 1) := by decide +kernel
theorem dX5_causeOfPower_60 : decode cX5_causeOfPower 60 = .ok (.aload_n 0, 1) := by decide +kernel
theorem dX5_causeOfPower_61 : decode cX5_causeOfPower 61 = .ok (.getfield 15, 3) := by decide +kernel
theorem dX5_causeOfPower_64 : decode cX5_causeOfPower 64 = .ok (.bipush 100, 2) := by decide +kernel
theorem dX5_causeOfPower_66 : decode cX5_causeOfPower 66 = .ok (.if_icmp .lt 11, 3) := by decide +kernel
theorem dX5_causeOfPower_69 : decode cX5_causeOfPower 69 = .ok (.iload_n 3, 1) := by decide +kernel
theorem dX5_causeOfPower_70 : decode cX5_causeOfPower 70 = .ok (.ifCond .eq 7, 3) := by decide +kernel
theorem dX5_causeOfPower_73 : decode cX5_causeOfPower 73 = .ok (.iconst 5, 1) := by decide +kernel
theorem dX5_causeOfPower_74 : decode cX5_causeOfPower 74 = .ok (.goto 4, 3) := by decide +kernel
theorem dX5_causeOfPower_77 : decode cX5_causeOfPower 77 = .ok (.iconst 0, 1) := by decide +kernel
theorem dX5_causeOfPower_78 : decode cX5_causeOfPower 78 = .ok (.ireturn, 1) := by decide +kernel
theorem dX5_causeOfDoors_0 : decode cX5_causeOfDoors 0 = .ok (.aload_n 0, 1) := by decide +kernel
theorem dX5_causeOfDoors_1 : decode cX5_causeOfDoors 1 = .ok (.getfield 9, 3) := by decide +kernel
theorem dX5_causeOfDoors_4 : decode cX5_causeOfDoors 4 = .ok (.iconst 1, 1) := by decide +kernel
theorem dX5_causeOfDoors_5 : decode cX5_causeOfDoors 5 = .ok (.iaload, 1) := by decide +kernel
theorem dX5_causeOfDoors_6 : decode cX5_causeOfDoors 6 = .ok (.bipush 70, 2) := by decide +kernel
theorem dX5_causeOfDoors_8 : decode cX5_causeOfDoors 8 = .ok (.if_icmp .lt 15, 3) := by decide +kernel
theorem dX5_causeOfDoors_11 : decode cX5_causeOfDoors 11 = .ok (.aload_n 1, 1) := by decide +kernel
theorem dX5_causeOfDoors_12 : decode cX5_causeOfDoors 12 = .ok (.bipush 6, 2) := by decide +kernel
theorem dX5_causeOfDoors_14 : decode cX5_causeOfDoors 14 = .ok (.invokevirtual 52, 3) := by decide +kernel
theorem dX5_causeOfDoors_17 : decode cX5_causeOfDoors 17 = .ok (.ifCond .ne 6, 3) := by decide +kernel
theorem dX5_causeOfDoors_20 : decode cX5_causeOfDoors 20 = .ok (.bipush 6, 2) := by decide +kernel
theorem dX5_causeOfDoors_22 : decode cX5_causeOfDoors 22 = .ok (.ireturn, 1) := by decide +kernel
theorem dX5_causeOfDoors_23 : decode cX5_causeOfDoors 23 = .ok (.aload_n 0, 1) := by decide +kernel
theorem dX5_causeOfDoors_24 : decode cX5_causeOfDoors 24 = .ok (.getfield 9, 3) := by decide +kernel
theorem dX5_causeOfDoors_27 : decode cX5_causeOfDoors 27 = .ok (.iconst 2, 1) := by decide +kernel
theorem dX5_causeOfDoors_28 : decode cX5_causeOfDoors 28 = .ok (.iaload, 1) := by decide +kernel
theorem dX5_causeOfDoors_29 : decode cX5_causeOfDoors 29 = .ok (.bipush 70, 2) := by decide +kernel
theorem dX5_causeOfDoors_31 : decode cX5_causeOfDoors 31 = .ok (.if_icmp .lt 16, 3) := by decide +kernel
theorem dX5_causeOfDoors_34 : decode cX5_causeOfDoors 34 = .ok (.aload_n 1, 1) := by decide +kernel
theorem dX5_causeOfDoors_35 : decode cX5_causeOfDoors 35 = .ok (.iconst 3, 1) := by decide +kernel
theorem dX5_causeOfDoors_36 : decode cX5_causeOfDoors 36 = .ok (.invokevirtual 52, 3) := by decide +kernel
theorem dX5_causeOfDoors_39 : decode cX5_causeOfDoors 39 = .ok (.ifCond .ne 8, 3) := by decide +kernel
theorem dX5_causeOfDoors_42 : decode cX5_causeOfDoors 42 = .ok (.bipush 7, 2) := by decide +kernel
theorem dX5_causeOfDoors_44 : decode cX5_causeOfDoors 44 = .ok (.goto 4, 3) := by decide +kernel
theorem dX5_causeOfDoors_47 : decode cX5_causeOfDoors 47 = .ok (.iconst 0, 1) := by decide +kernel
theorem dX5_causeOfDoors_48 : decode cX5_causeOfDoors 48 = .ok (.ireturn, 1) := by decide +kernel
theorem dX5_causeOfGears_0 : decode cX5_causeOfGears 0 = .ok (.aload_n 0, 1) := by decide +kernel
theorem dX5_causeOfGears_1 : decode cX5_causeOfGears 1 = .ok (.getfield 9, 3) := by decide +kernel
theorem dX5_causeOfGears_4 : decode cX5_causeOfGears 4 = .ok (.iconst 3, 1) := by decide +kernel
theorem dX5_causeOfGears_5 : decode cX5_causeOfGears 5 = .ok (.iaload, 1) := by decide +kernel
theorem dX5_causeOfGears_6 : decode cX5_causeOfGears 6 = .ok (.bipush 70, 2) := by decide +kernel
theorem dX5_causeOfGears_8 : decode cX5_causeOfGears 8 = .ok (.if_icmp .lt 12, 3) := by decide +kernel
theorem dX5_causeOfGears_11 : decode cX5_causeOfGears 11 = .ok (.aload_n 1, 1) := by decide +kernel
theorem dX5_causeOfGears_12 : decode cX5_causeOfGears 12 = .ok (.bipush 12, 2) := by decide +kernel
theorem dX5_causeOfGears_14 : decode cX5_causeOfGears 14 = .ok (.invokevirtual 55, 3) := by decide +kernel
theorem dX5_causeOfGears_17 : decode cX5_causeOfGears 17 = .ok (.ifCond .ne 23, 3) := by decide +kernel
theorem dX5_causeOfGears_20 : decode cX5_causeOfGears 20 = .ok (.aload_n 0, 1) := by decide +kernel
theorem dX5_causeOfGears_21 : decode cX5_causeOfGears 21 = .ok (.getfield 9, 3) := by decide +kernel
theorem dX5_causeOfGears_24 : decode cX5_causeOfGears 24 = .ok (.iconst 4, 1) := by decide +kernel
theorem dX5_causeOfGears_25 : decode cX5_causeOfGears 25 = .ok (.iaload, 1) := by decide +kernel
theorem dX5_causeOfGears_26 : decode cX5_causeOfGears 26 = .ok (.bipush 70, 2) := by decide +kernel
theorem dX5_causeOfGears_28 : decode cX5_causeOfGears 28 = .ok (.if_icmp .lt 15, 3) := by decide +kernel
theorem dX5_causeOfGears_31 : decode cX5_causeOfGears 31 = .ok (.aload_n 1, 1) := by decide +kernel
theorem dX5_causeOfGears_32 : decode cX5_causeOfGears 32 = .ok (.bipush 9, 2) := by decide +kernel
theorem dX5_causeOfGears_34 : decode cX5_causeOfGears 34 = .ok (.invokevirtual 55, 3) := by decide +kernel
theorem dX5_causeOfGears_37 : decode cX5_causeOfGears 37 = .ok (.ifCond .eq 6, 3) := by decide +kernel
theorem dX5_causeOfGears_40 : decode cX5_causeOfGears 40 = .ok (.bipush 8, 2) := by decide +kernel
theorem dX5_causeOfGears_42 : decode cX5_causeOfGears 42 = .ok (.ireturn, 1) := by decide +kernel
theorem dX5_causeOfGears_43 : decode cX5_causeOfGears 43 = .ok (.aload_n 0, 1) := by decide +kernel
theorem dX5_causeOfGears_44 : decode cX5_causeOfGears 44 = .ok (.getfield 9, 3) := by decide +kernel
theorem dX5_causeOfGears_47 : decode cX5_causeOfGears 47 = .ok (.iconst 3, 1) := by decide +kernel
theorem dX5_causeOfGears_48 : decode cX5_causeOfGears 48 = .ok (.iaload, 1) := by decide +kernel
theorem dX5_causeOfGears_49 : decode cX5_causeOfGears 49 = .ok (.bipush 100, 2) := by decide +kernel
theorem dX5_causeOfGears_51 : decode cX5_causeOfGears 51 = .ok (.if_icmp .lt 12, 3) := by decide +kernel
theorem dX5_causeOfGears_54 : decode cX5_causeOfGears 54 = .ok (.aload_n 1, 1) := by decide +kernel
theorem dX5_causeOfGears_55 : decode cX5_causeOfGears 55 = .ok (.bipush 9, 2) := by decide +kernel
theorem dX5_causeOfGears_57 : decode cX5_causeOfGears 57 = .ok (.invokevirtual 52, 3) := by decide +kernel
theorem dX5_causeOfGears_60 : decode cX5_causeOfGears 60 = .ok (.ifCond .eq 23, 3) := by decide +kernel
theorem dX5_causeOfGears_63 : decode cX5_causeOfGears 63 = .ok (.aload_n 0, 1) := by decide +kernel
theorem dX5_causeOfGears_64 : decode cX5_causeOfGears 64 = .ok (.getfield 9, 3) := by decide +kernel
theorem dX5_causeOfGears_67 : decode cX5_causeOfGears 67 = .ok (.iconst 4, 1) := by decide +kernel
theorem dX5_causeOfGears_68 : decode cX5_causeOfGears 68 = .ok (.iaload, 1) := by decide +kernel
theorem dX5_causeOfGears_69 : decode cX5_causeOfGears 69 = .ok (.bipush 100, 2) := by decide +kernel
theorem dX5_causeOfGears_71 : decode cX5_causeOfGears 71 = .ok (.if_icmp .lt 16, 3) := by decide +kernel
theorem dX5_causeOfGears_74 : decode cX5_causeOfGears 74 = .ok (.aload_n 1, 1) := by decide +kernel
theorem dX5_causeOfGears_75 : decode cX5_causeOfGears 75 = .ok (.bipush 12, 2) := by decide +kernel
theorem dX5_causeOfGears_77 : decode cX5_causeOfGears 77 = .ok (.invokevirtual 52, 3) := by decide +kernel
theorem dX5_causeOfGears_80 : decode cX5_causeOfGears 80 = .ok (.ifCond .ne 7, 3) := by decide +kernel
theorem dX5_causeOfGears_83 : decode cX5_causeOfGears 83 = .ok (.iconst 1, 1) := by decide +kernel
theorem dX5_causeOfGears_84 : decode cX5_causeOfGears 84 = .ok (.goto 4, 3) := by decide +kernel
theorem dX5_causeOfGears_87 : decode cX5_causeOfGears 87 = .ok (.iconst 0, 1) := by decide +kernel
theorem dX5_causeOfGears_88 : decode cX5_causeOfGears 88 = .ok (.istore_n 2, 1) := by decide +kernel
theorem dX5_causeOfGears_89 : decode cX5_causeOfGears 89 = .ok (.iload_n 2, 1) := by decide +kernel
theorem dX5_causeOfGears_90 : decode cX5_causeOfGears 90 = .ok (.ifCond .eq 8, 3) := by decide +kernel
theorem dX5_causeOfGears_93 : decode cX5_causeOfGears 93 = .ok (.bipush 9, 2) := by decide +kernel
theorem dX5_causeOfGears_95 : decode cX5_causeOfGears 95 = .ok (.goto 4, 3) := by decide +kernel
theorem dX5_causeOfGears_98 : decode cX5_causeOfGears 98 = .ok (.iconst 0, 1) := by decide +kernel
theorem dX5_causeOfGears_99 : decode cX5_causeOfGears 99 = .ok (.ireturn, 1) := by decide +kernel
theorem dX6_init_0 : decode cX6_init 0 = .ok (.aload_n 0, 1) := by decide +kernel
theorem dX6_init_1 : decode cX6_init 1 = .ok (.invokespecial 1, 3) := by decide +kernel
theorem dX6_init_4 : decode cX6_init 4 = .ok (.aload_n 0, 1) := by decide +kernel
theorem dX6_init_5 : decode cX6_init 5 = .ok (.new 7, 3) := by decide +kernel
theorem dX6_init_8 : decode cX6_init 8 = .ok (.dup, 1) := by decide +kernel
theorem dX6_init_9 : decode cX6_init 9 = .ok (.iload_n 1, 1) := by decide +kernel
theorem dX6_init_10 : decode cX6_init 10 = .ok (.iload_n 2, 1) := by decide +kernel
theorem dX6_init_11 : decode cX6_init 11 = .ok (.iload_n 3, 1) := by decide +kernel
theorem dX6_init_12 : decode cX6_init 12 = .ok (.iload 4, 2) := by decide +kernel
theorem dX6_init_14 : decode cX6_init 14 = .ok (.invokespecial 9, 3) := by decide +kernel
theorem dX6_init_17 : decode cX6_init 17 = .ok (.putfield 12, 3) := by decide +kernel
theorem dX6_init_20 : decode cX6_init 20 = .ok (.aload_n 0, 1) := by decide +kernel
theorem dX6_init_21 : decode cX6_init 21 = .ok (.new 18, 3) := by decide +kernel
theorem dX6_init_24 : decode cX6_init 24 = .ok (.dup, 1) := by decide +kernel
theorem dX6_init_25 : decode cX6_init 25 = .ok (.invokespecial 20, 3) := by decide +kernel
theorem dX6_init_28 : decode cX6_init 28 = .ok (.putfield 21, 3) := by decide +kernel
theorem dX6_init_31 : decode cX6_init 31 = .ok (.aload_n 0, 1) := by decide +kernel
theorem dX6_init_32 : decode cX6_init 32 = .ok (.getfield 21, 3) := by decide +kernel
theorem dX6_init_35 : decode cX6_init 35 = .ok (.aload_n 0, 1) := by decide +kernel
theorem dX6_init_36 : decode cX6_init 36 = .ok (.getfield 12, 3) := by decide +kernel
theorem dX6_init_39 : decode cX6_init 39 = .ok (.invokevirtual 25, 3) := by decide +kernel
theorem dX6_init_42 : decode cX6_init 42 = .ok (.aload_n 0, 1) := by decide +kernel
theorem dX6_init_43 : decode cX6_init 43 = .ok (.iconst 2, 1) := by decide +kernel
theorem dX6_init_44 : decode cX6_init 44 = .ok (.anewarray 29, 3) := by decide +kernel
theorem dX6_init_47 : decode cX6_init 47 = .ok (.putfield 31, 3) := by decide +kernel
theorem dX6_init_50 : decode cX6_init 50 = .ok (.iconst 0, 1) := by decide +kernel
theorem dX6_init_51 : decode cX6_init 51 = .ok (.istore 5, 2) := by decide +kernel
theorem dX6_init_53 : decode cX6_init 53 = .ok (.iload 5, 2) := by decide +kernel
theorem dX6_init_55 : decode cX6_init 55 = .ok (.iconst 2, 1) := by decide +kernel
theorem dX6_init_56 : decode cX6_init 56 = .ok (.if_icmp .ge 29, 3) := by decide +kernel
theorem dX6_init_59 : decode cX6_init 59 = .ok (.aload_n 0, 1) := by decide +kernel
theorem dX6_init_60 : decode cX6_init 60 = .ok (.getfield 31, 3) := by decide +kernel
theorem dX6_init_63 : decode cX6_init 63 = .ok (.iload 5, 2) := by decide +kernel
theorem dX6_init_65 : decode cX6_init 65 = .ok (.new 29, 3) := by decide +kernel
theorem dX6_init_68 : decode cX6_init 68 = .ok (.dup, 1) := by decide +kernel
theorem dX6_init_69 : decode cX6_init 69 = .ok (.iload 5, 2) := by decide +kernel
theorem dX6_init_71 : decode cX6_init 71 = .ok (.aload_n 0, 1) := by decide +kernel
theorem dX6_init_72 : decode cX6_init 72 = .ok (.getfield 21, 3) := by decide +kernel
theorem dX6_init_75 : decode cX6_init 75 = .ok (.invokespecial 35, 3) := by decide +kernel
theorem dX6_init_78 : decode cX6_init 78 = .ok (.aastore, 1) := by decide +kernel
theorem dX6_init_79 : decode cX6_init 79 = .ok (.iinc 5 1, 3) := by decide +kernel
theorem dX6_init_82 : decode cX6_init 82 = .ok (.goto (-29), 3) := by decide +kernel
theorem dX6_init_85 : decode cX6_init 85 = .ok (.aload_n 0, 1) := by decide +kernel
theorem dX6_init_86 : decode cX6_init 86 = .ok (.new 38, 3) := by decide +kernel
theorem dX6_init_89 : decode cX6_init 89 = .ok (.dup, 1) := by decide +kernel
theorem dX6_init_90 : decode cX6_init 90 = .ok (.invokespecial 40, 3) := by decide +kernel
theorem dX6_init_93 : decode cX6_init 93 = .ok (.putfield 41, 3) := by decide +kernel
theorem dX6_init_96 : decode cX6_init 96 = .ok (.aload_n 0, 1) := by decide +kernel
theorem dX6_init_97 : decode cX6_init 97 = .ok (.iconst 0, 1) := by decide +kernel
theorem dX6_init_98 : decode cX6_init 98 = .ok (.putfield 45, 3) := by decide +kernel
theorem dX6_init_101 : decode cX6_init 101 = .ok (.aload_n 0, 1) := by decide +kernel
theorem dX6_init_102 : decode cX6_init 102 = .ok (.iconst 1, 1) := by decide +kernel
theorem dX6_init_103 : decode cX6_init 103 = .ok (.putfield 49, 3) := by decide +kernel
theorem dX6_init_106 : decode cX6_init 106 = .ok (.aload_n 0, 1) := by decide +kernel
theorem dX6_init_107 : decode cX6_init 107 = .ok (.iconst 0, 1) := by decide +kernel
theorem dX6_init_108 : decode cX6_init 108 = .ok (.putfield 52, 3) := by decide +kernel
theorem dX6_init_111 : decode cX6_init 111 = .ok (.return_, 1) := by decide +kernel
theorem dX6_handle_0 : decode cX6_handle 0 = .ok (.iload_n 1, 1) := by decide +kernel
theorem dX6_handle_1 : decode cX6_handle 1 = .ok (.iconst 1, 1) := by decide +kernel
theorem dX6_handle_2 : decode cX6_handle 2 = .ok (.invokestatic 56, 3) := by decide +kernel
theorem dX6_handle_5 : decode cX6_handle 5 = .ok (.ifCond .eq 8, 3) := by decide +kernel
theorem dX6_handle_8 : decode cX6_handle 8 = .ok (.bipush (-2), 2) := by decide +kernel
theorem dX6_handle_10 : decode cX6_handle 10 = .ok (.goto 11, 3) := by decide +kernel
theorem dX6_handle_13 : decode cX6_handle 13 = .ok (.aload_n 0, 1) := by decide +kernel
theorem dX6_handle_14 : decode cX6_handle 14 = .ok (.getfield 12, 3) := by decide +kernel
theorem dX6_handle_17 : decode cX6_handle 17 = .ok (.iload_n 1, 1) := by decide +kernel
theorem dX6_handle_18 : decode cX6_handle 18 = .ok (.invokevirtual 60, 3) := by decide +kernel
theorem dX6_handle_21 : decode cX6_handle 21 = .ok (.ireturn, 1) := by decide +kernel
theorem dX6_ground_0 : decode cX6_ground 0 = .ok (.iload_n 1, 1) := by decide +kernel
theorem dX6_ground_1 : decode cX6_ground 1 = .ok (.bipush 7, 2) := by decide +kernel
theorem dX6_ground_3 : decode cX6_ground 3 = .ok (.invokestatic 56, 3) := by decide +kernel
theorem dX6_ground_6 : decode cX6_ground 6 = .ok (.ifCond .eq 6, 3) := by decide +kernel
theorem dX6_ground_9 : decode cX6_ground 9 = .ok (.bipush (-2), 2) := by decide +kernel
theorem dX6_ground_11 : decode cX6_ground 11 = .ok (.ireturn, 1) := by decide +kernel
theorem dX6_ground_12 : decode cX6_ground 12 = .ok (.aload_n 0, 1) := by decide +kernel
theorem dX6_ground_13 : decode cX6_ground 13 = .ok (.getfield 12, 3) := by decide +kernel
theorem dX6_ground_16 : decode cX6_ground 16 = .ok (.getfield 64, 3) := by decide +kernel
theorem dX6_ground_19 : decode cX6_ground 19 = .ok (.istore_n 2, 1) := by decide +kernel
theorem dX6_ground_20 : decode cX6_ground 20 = .ok (.aload_n 0, 1) := by decide +kernel
theorem dX6_ground_21 : decode cX6_ground 21 = .ok (.getfield 12, 3) := by decide +kernel
theorem dX6_ground_24 : decode cX6_ground 24 = .ok (.iload_n 1, 1) := by decide +kernel
theorem dX6_ground_25 : decode cX6_ground 25 = .ok (.putfield 64, 3) := by decide +kernel
theorem dX6_ground_28 : decode cX6_ground 28 = .ok (.iload_n 2, 1) := by decide +kernel
theorem dX6_ground_29 : decode cX6_ground 29 = .ok (.ireturn, 1) := by decide +kernel
theorem dX6_channel_0 : decode cX6_channel 0 = .ok (.iload_n 1, 1) := by decide +kernel
theorem dX6_channel_1 : decode cX6_channel 1 = .ok (.bipush 17, 2) := by decide +kernel
theorem dX6_channel_3 : decode cX6_channel 3 = .ok (.invokestatic 56, 3) := by decide +kernel
theorem dX6_channel_6 : decode cX6_channel 6 = .ok (.ifCond .ne 19, 3) := by decide +kernel
theorem dX6_channel_9 : decode cX6_channel 9 = .ok (.iload_n 2, 1) := by decide +kernel
theorem dX6_channel_10 : decode cX6_channel 10 = .ok (.iconst 2, 1) := by decide +kernel
theorem dX6_channel_11 : decode cX6_channel 11 = .ok (.invokestatic 56, 3) := by decide +kernel
theorem dX6_channel_14 : decode cX6_channel 14 = .ok (.ifCond .ne 11, 3) := by decide +kernel
theorem dX6_channel_17 : decode cX6_channel 17 = .ok (.iload_n 3, 1) := by decide +kernel
theorem dX6_channel_18 : decode cX6_channel 18 = .ok (.iconst 3, 1) := by decide +kernel
theorem dX6_channel_19 : decode cX6_channel 19 = .ok (.invokestatic 56, 3) := by decide +kernel
theorem dX6_channel_22 : decode cX6_channel 22 = .ok (.ifCond .eq 6, 3) := by decide +kernel
theorem dX6_channel_25 : decode cX6_channel 25 = .ok (.bipush (-2), 2) := by decide +kernel
theorem dX6_channel_27 : decode cX6_channel 27 = .ok (.ireturn, 1) := by decide +kernel
theorem dX6_channel_28 : decode cX6_channel 28 = .ok (.aload_n 0, 1) := by decide +kernel
theorem dX6_channel_29 : decode cX6_channel 29 = .ok (.getfield 21, 3) := by decide +kernel
theorem dX6_channel_32 : decode cX6_channel 32 = .ok (.getfield 67, 3) := by decide +kernel
theorem dX6_channel_35 : decode cX6_channel 35 = .ok (.iload_n 1, 1) := by decide +kernel
theorem dX6_channel_36 : decode cX6_channel 36 = .ok (.iconst 3, 1) := by decide +kernel
theorem dX6_channel_37 : decode cX6_channel 37 = .ok (.imul, 1) := by decide +kernel
theorem dX6_channel_38 : decode cX6_channel 38 = .ok (.iload_n 2, 1) := by decide +kernel
theorem dX6_channel_39 : decode cX6_channel 39 = .ok (.iadd, 1) := by decide +kernel
theorem dX6_channel_40 : decode cX6_channel 40 = .ok (.iload_n 3, 1) := by decide +kernel
theorem dX6_channel_41 : decode cX6_channel 41 = .ok (.invokestatic 71, 3) := by decide +kernel
theorem dX6_channel_44 : decode cX6_channel 44 = .ok (.ireturn, 1) := by decide +kernel
theorem dX6_cylinder_0 : decode cX6_cylinder 0 = .ok (.iload_n 1, 1) := by decide +kernel
theorem dX6_cylinder_1 : decode cX6_cylinder 1 = .ok (.iconst 5, 1) := by decide +kernel
theorem dX6_cylinder_2 : decode cX6_cylinder 2 = .ok (.invokestatic 56, 3) := by decide +kernel
theorem dX6_cylinder_5 : decode cX6_cylinder 5 = .ok (.ifCond .ne 11, 3) := by decide +kernel
theorem dX6_cylinder_8 : decode cX6_cylinder 8 = .ok (.iload_n 2, 1) := by decide +kernel
theorem dX6_cylinder_9 : decode cX6_cylinder 9 = .ok (.iconst 1, 1) := by decide +kernel
theorem dX6_cylinder_10 : decode cX6_cylinder 10 = .ok (.invokestatic 56, 3) := by decide +kernel
theorem dX6_cylinder_13 : decode cX6_cylinder 13 = .ok (.ifCond .eq 6, 3) := by decide +kernel
theorem dX6_cylinder_16 : decode cX6_cylinder 16 = .ok (.bipush (-2), 2) := by decide +kernel
theorem dX6_cylinder_18 : decode cX6_cylinder 18 = .ok (.ireturn, 1) := by decide +kernel
theorem dX6_cylinder_19 : decode cX6_cylinder 19 = .ok (.aload_n 0, 1) := by decide +kernel
theorem dX6_cylinder_20 : decode cX6_cylinder 20 = .ok (.getfield 12, 3) := by decide +kernel
theorem dX6_cylinder_23 : decode cX6_cylinder 23 = .ok (.getfield 75, 3) := by decide +kernel
theorem dX6_cylinder_26 : decode cX6_cylinder 26 = .ok (.iload_n 1, 1) := by decide +kernel
theorem dX6_cylinder_27 : decode cX6_cylinder 27 = .ok (.iload_n 2, 1) := by decide +kernel
theorem dX6_cylinder_28 : decode cX6_cylinder 28 = .ok (.invokestatic 71, 3) := by decide +kernel
theorem dX6_cylinder_31 : decode cX6_cylinder 31 = .ok (.ireturn, 1) := by decide +kernel
theorem dX6_valve_0 : decode cX6_valve 0 = .ok (.iload_n 1, 1) := by decide +kernel
theorem dX6_valve_1 : decode cX6_valve 1 = .ok (.iconst 4, 1) := by decide +kernel
theorem dX6_valve_2 : decode cX6_valve 2 = .ok (.invokestatic 56, 3) := by decide +kernel
theorem dX6_valve_5 : decode cX6_valve 5 = .ok (.ifCond .ne 11, 3) := by decide +kernel
theorem dX6_valve_8 : decode cX6_valve 8 = .ok (.iload_n 2, 1) := by decide +kernel
theorem dX6_valve_9 : decode cX6_valve 9 = .ok (.iconst 2, 1) := by decide +kernel
theorem dX6_valve_10 : decode cX6_valve 10 = .ok (.invokestatic 56, 3) := by decide +kernel
theorem dX6_valve_13 : decode cX6_valve 13 = .ok (.ifCond .eq 6, 3) := by decide +kernel
theorem dX6_valve_16 : decode cX6_valve 16 = .ok (.bipush (-2), 2) := by decide +kernel
theorem dX6_valve_18 : decode cX6_valve 18 = .ok (.ireturn, 1) := by decide +kernel
theorem dX6_valve_19 : decode cX6_valve 19 = .ok (.aload_n 0, 1) := by decide +kernel
theorem dX6_valve_20 : decode cX6_valve 20 = .ok (.getfield 12, 3) := by decide +kernel
theorem dX6_valve_23 : decode cX6_valve 23 = .ok (.getfield 78, 3) := by decide +kernel
theorem dX6_valve_26 : decode cX6_valve 26 = .ok (.iload_n 1, 1) := by decide +kernel
theorem dX6_valve_27 : decode cX6_valve 27 = .ok (.iload_n 2, 1) := by decide +kernel
theorem dX6_valve_28 : decode cX6_valve 28 = .ok (.invokestatic 71, 3) := by decide +kernel
theorem dX6_valve_31 : decode cX6_valve 31 = .ok (.ireturn, 1) := by decide +kernel
theorem dX6_stick_0 : decode cX6_stick 0 = .ok (.iload_n 1, 1) := by decide +kernel
theorem dX6_stick_1 : decode cX6_stick 1 = .ok (.iconst 1, 1) := by decide +kernel
theorem dX6_stick_2 : decode cX6_stick 2 = .ok (.invokestatic 56, 3) := by decide +kernel
theorem dX6_stick_5 : decode cX6_stick 5 = .ok (.ifCond .eq 6, 3) := by decide +kernel
theorem dX6_stick_8 : decode cX6_stick 8 = .ok (.bipush (-2), 2) := by decide +kernel
theorem dX6_stick_10 : decode cX6_stick 10 = .ok (.ireturn, 1) := by decide +kernel
theorem dX6_stick_11 : decode cX6_stick 11 = .ok (.aload_n 0, 1) := by decide +kernel
theorem dX6_stick_12 : decode cX6_stick 12 = .ok (.getfield 12, 3) := by decide +kernel
theorem dX6_stick_15 : decode cX6_stick 15 = .ok (.getfield 81, 3) := by decide +kernel
theorem dX6_stick_18 : decode cX6_stick 18 = .ok (.istore_n 2, 1) := by decide +kernel
theorem dX6_stick_19 : decode cX6_stick 19 = .ok (.aload_n 0, 1) := by decide +kernel
theorem dX6_stick_20 : decode cX6_stick 20 = .ok (.getfield 12, 3) := by decide +kernel
theorem dX6_stick_23 : decode cX6_stick 23 = .ok (.iload_n 1, 1) := by decide +kernel
theorem dX6_stick_24 : decode cX6_stick 24 = .ok (.putfield 81, 3) := by decide +kernel
theorem dX6_stick_27 : decode cX6_stick 27 = .ok (.iload_n 2, 1) := by decide +kernel
theorem dX6_stick_28 : decode cX6_stick 28 = .ok (.ireturn, 1) := by decide +kernel
theorem dX6_module_0 : decode cX6_module 0 = .ok (.iload_n 1, 1) := by decide +kernel
theorem dX6_module_1 : decode cX6_module 1 = .ok (.iconst 1, 1) := by decide +kernel
theorem dX6_module_2 : decode cX6_module 2 = .ok (.invokestatic 56, 3) := by decide +kernel
theorem dX6_module_5 : decode cX6_module 5 = .ok (.ifCond .ne 11, 3) := by decide +kernel
theorem dX6_module_8 : decode cX6_module 8 = .ok (.iload_n 2, 1) := by decide +kernel
theorem dX6_module_9 : decode cX6_module 9 = .ok (.iconst 1, 1) := by decide +kernel
theorem dX6_module_10 : decode cX6_module 10 = .ok (.invokestatic 56, 3) := by decide +kernel
theorem dX6_module_13 : decode cX6_module 13 = .ok (.ifCond .eq 6, 3) := by decide +kernel
theorem dX6_module_16 : decode cX6_module 16 = .ok (.bipush (-2), 2) := by decide +kernel
theorem dX6_module_18 : decode cX6_module 18 = .ok (.ireturn, 1) := by decide +kernel
theorem dX6_module_19 : decode cX6_module 19 = .ok (.aload_n 0, 1) := by decide +kernel
theorem dX6_module_20 : decode cX6_module 20 = .ok (.getfield 31, 3) := by decide +kernel
theorem dX6_module_23 : decode cX6_module 23 = .ok (.iload_n 1, 1) := by decide +kernel
theorem dX6_module_24 : decode cX6_module 24 = .ok (.aaload, 1) := by decide +kernel
theorem dX6_module_25 : decode cX6_module 25 = .ok (.getfield 84, 3) := by decide +kernel
theorem dX6_module_28 : decode cX6_module 28 = .ok (.istore_n 3, 1) := by decide +kernel
theorem dX6_module_29 : decode cX6_module 29 = .ok (.aload_n 0, 1) := by decide +kernel
theorem dX6_module_30 : decode cX6_module 30 = .ok (.getfield 31, 3) := by decide +kernel
theorem dX6_module_33 : decode cX6_module 33 = .ok (.iload_n 1, 1) := by decide +kernel
theorem dX6_module_34 : decode cX6_module 34 = .ok (.aaload, 1) := by decide +kernel
theorem dX6_module_35 : decode cX6_module 35 = .ok (.iload_n 2, 1) := by decide +kernel
theorem dX6_module_36 : decode cX6_module 36 = .ok (.putfield 84, 3) := by decide +kernel
theorem dX6_module_39 : decode cX6_module 39 = .ok (.iload_n 3, 1) := by decide +kernel
theorem dX6_module_40 : decode cX6_module 40 = .ok (.ireturn, 1) := by decide +kernel
theorem dX6_run_0 : decode cX6_run 0 = .ok (.iload_n 1, 1) := by decide +kernel
theorem dX6_run_1 : decode cX6_run 1 = .ok (.iconst 1, 1) := by decide +kernel
theorem dX6_run_2 : decode cX6_run 2 = .ok (.if_icmp .lt 10, 3) := by decide +kernel
theorem dX6_run_5 : decode cX6_run 5 = .ok (.iload_n 1, 1) := by decide +kernel
theorem dX6_run_6 : decode cX6_run 6 = .ok (.sipush 1000, 3) := by decide +kernel
theorem dX6_run_9 : decode cX6_run 9 = .ok (.if_icmp .le 6, 3) := by decide +kernel
theorem dX6_run_12 : decode cX6_run 12 = .ok (.bipush (-2), 2) := by decide +kernel
theorem dX6_run_14 : decode cX6_run 14 = .ok (.ireturn, 1) := by decide +kernel
theorem dX6_run_15 : decode cX6_run 15 = .ok (.iconst 0, 1) := by decide +kernel
theorem dX6_run_16 : decode cX6_run 16 = .ok (.istore_n 2, 1) := by decide +kernel
theorem dX6_run_17 : decode cX6_run 17 = .ok (.iload_n 2, 1) := by decide +kernel
theorem dX6_run_18 : decode cX6_run 18 = .ok (.iload_n 1, 1) := by decide +kernel
theorem dX6_run_19 : decode cX6_run 19 = .ok (.if_icmp .ge 13, 3) := by decide +kernel
theorem dX6_run_22 : decode cX6_run 22 = .ok (.aload_n 0, 1) := by decide +kernel
theorem dX6_run_23 : decode cX6_run 23 = .ok (.invokevirtual 87, 3) := by decide +kernel
theorem dX6_run_26 : decode cX6_run 26 = .ok (.iinc 2 1, 3) := by decide +kernel
theorem dX6_run_29 : decode cX6_run 29 = .ok (.goto (-12), 3) := by decide +kernel
theorem dX6_run_32 : decode cX6_run 32 = .ok (.aload_n 0, 1) := by decide +kernel
theorem dX6_run_33 : decode cX6_run 33 = .ok (.getfield 49, 3) := by decide +kernel
theorem dX6_run_36 : decode cX6_run 36 = .ok (.ireturn, 1) := by decide +kernel
theorem dX6_settle_0 : decode cX6_settle 0 = .ok (.iload_n 1, 1) := by decide +kernel
theorem dX6_settle_1 : decode cX6_settle 1 = .ok (.iconst 1, 1) := by decide +kernel
theorem dX6_settle_2 : decode cX6_settle 2 = .ok (.if_icmp .lt 10, 3) := by decide +kernel
theorem dX6_settle_5 : decode cX6_settle 5 = .ok (.iload_n 1, 1) := by decide +kernel
theorem dX6_settle_6 : decode cX6_settle 6 = .ok (.sipush 1000, 3) := by decide +kernel
theorem dX6_settle_9 : decode cX6_settle 9 = .ok (.if_icmp .le 6, 3) := by decide +kernel
theorem dX6_settle_12 : decode cX6_settle 12 = .ok (.bipush (-2), 2) := by decide +kernel
theorem dX6_settle_14 : decode cX6_settle 14 = .ok (.ireturn, 1) := by decide +kernel
theorem dX6_settle_15 : decode cX6_settle 15 = .ok (.iconst 0, 1) := by decide +kernel
theorem dX6_settle_16 : decode cX6_settle 16 = .ok (.istore_n 2, 1) := by decide +kernel
theorem dX6_settle_17 : decode cX6_settle 17 = .ok (.iload_n 2, 1) := by decide +kernel
theorem dX6_settle_18 : decode cX6_settle 18 = .ok (.iload_n 1, 1) := by decide +kernel
theorem dX6_settle_19 : decode cX6_settle 19 = .ok (.if_icmp .ge 20, 3) := by decide +kernel
theorem dX6_settle_22 : decode cX6_settle 22 = .ok (.aload_n 0, 1) := by decide +kernel
theorem dX6_settle_23 : decode cX6_settle 23 = .ok (.invokevirtual 90, 3) := by decide +kernel
theorem dX6_settle_26 : decode cX6_settle 26 = .ok (.ifCond .eq 13, 3) := by decide +kernel
theorem dX6_settle_29 : decode cX6_settle 29 = .ok (.aload_n 0, 1) := by decide +kernel
theorem dX6_settle_30 : decode cX6_settle 30 = .ok (.invokevirtual 87, 3) := by decide +kernel
theorem dX6_settle_33 : decode cX6_settle 33 = .ok (.iinc 2 1, 3) := by decide +kernel
theorem dX6_settle_36 : decode cX6_settle 36 = .ok (.goto (-19), 3) := by decide +kernel
theorem dX6_settle_39 : decode cX6_settle 39 = .ok (.iload_n 2, 1) := by decide +kernel
theorem dX6_settle_40 : decode cX6_settle 40 = .ok (.ireturn, 1) := by decide +kernel
theorem dX6_plant_0 : decode cX6_plant 0 = .ok (.iload_n 1, 1) := by decide +kernel
theorem dX6_plant_1 : decode cX6_plant 1 = .ok (.ifCond .lt 19, 3) := by decide +kernel
theorem dX6_plant_4 : decode cX6_plant 4 = .ok (.iload_n 1, 1) := by decide +kernel
theorem dX6_plant_5 : decode cX6_plant 5 = .ok (.bipush 6, 2) := by decide +kernel
theorem dX6_plant_7 : decode cX6_plant 7 = .ok (.if_icmp .ge 13, 3) := by decide +kernel
theorem dX6_plant_10 : decode cX6_plant 10 = .ok (.aload_n 0, 1) := by decide +kernel
theorem dX6_plant_11 : decode cX6_plant 11 = .ok (.getfield 12, 3) := by decide +kernel
theorem dX6_plant_14 : decode cX6_plant 14 = .ok (.getfield 94, 3) := by decide +kernel
theorem dX6_plant_17 : decode cX6_plant 17 = .ok (.iload_n 1, 1) := by decide +kernel
theorem dX6_plant_18 : decode cX6_plant 18 = .ok (.iaload, 1) := by decide +kernel
theorem dX6_plant_19 : decode cX6_plant 19 = .ok (.ireturn, 1) := by decide +kernel
theorem dX6_plant_20 : decode cX6_plant 20 = .ok (.iload_n 1, 1) := by decide +kernel
theorem dX6_plant_21 : decode cX6_plant 21 = .ok (.bipush 6, 2) := by decide +kernel
theorem dX6_plant_23 : decode cX6_plant 23 = .ok (.if_icmp .lt 22, 3) := by decide +kernel
theorem dX6_plant_26 : decode cX6_plant 26 = .ok (.iload_n 1, 1) := by decide +kernel
theorem dX6_plant_27 : decode cX6_plant 27 = .ok (.bipush 11, 2) := by decide +kernel
theorem dX6_plant_29 : decode cX6_plant 29 = .ok (.if_icmp .ge 16, 3) := by decide +kernel
theorem dX6_plant_32 : decode cX6_plant 32 = .ok (.aload_n 0, 1) := by decide +kernel
theorem dX6_plant_33 : decode cX6_plant 33 = .ok (.getfield 12, 3) := by decide +kernel
theorem dX6_plant_36 : decode cX6_plant 36 = .ok (.getfield 97, 3) := by decide +kernel
theorem dX6_plant_39 : decode cX6_plant 39 = .ok (.iload_n 1, 1) := by decide +kernel
theorem dX6_plant_40 : decode cX6_plant 40 = .ok (.bipush 6, 2) := by decide +kernel
theorem dX6_plant_42 : decode cX6_plant 42 = .ok (.isub, 1) := by decide +kernel
theorem dX6_plant_43 : decode cX6_plant 43 = .ok (.iaload, 1) := by decide +kernel
theorem dX6_plant_44 : decode cX6_plant 44 = .ok (.ireturn, 1) := by decide +kernel
theorem dX6_plant_45 : decode cX6_plant 45 = .ok (.iload_n 1, 1) := by decide +kernel
theorem dX6_plant_46 : decode cX6_plant 46 = .ok (.tableswitch 92 11 17 #[42, 50, 58, 66, 74, 79, 87], 42) := by decide +kernel
theorem dX6_plant_88 : decode cX6_plant 88 = .ok (.aload_n 0, 1) := by decide +kernel
theorem dX6_plant_89 : decode cX6_plant 89 = .ok (.getfield 12, 3) := by decide +kernel
theorem dX6_plant_92 : decode cX6_plant 92 = .ok (.getfield 100, 3) := by decide +kernel
theorem dX6_plant_95 : decode cX6_plant 95 = .ok (.ireturn, 1) := by decide +kernel
theorem dX6_plant_96 : decode cX6_plant 96 = .ok (.aload_n 0, 1) := by decide +kernel
theorem dX6_plant_97 : decode cX6_plant 97 = .ok (.getfield 12, 3) := by decide +kernel
theorem dX6_plant_100 : decode cX6_plant 100 = .ok (.getfield 103, 3) := by decide +kernel
theorem dX6_plant_103 : decode cX6_plant 103 = .ok (.ireturn, 1) := by decide +kernel
theorem dX6_plant_104 : decode cX6_plant 104 = .ok (.aload_n 0, 1) := by decide +kernel
theorem dX6_plant_105 : decode cX6_plant 105 = .ok (.getfield 12, 3) := by decide +kernel
theorem dX6_plant_108 : decode cX6_plant 108 = .ok (.getfield 106, 3) := by decide +kernel
theorem dX6_plant_111 : decode cX6_plant 111 = .ok (.ireturn, 1) := by decide +kernel
theorem dX6_plant_112 : decode cX6_plant 112 = .ok (.aload_n 0, 1) := by decide +kernel
theorem dX6_plant_113 : decode cX6_plant 113 = .ok (.getfield 12, 3) := by decide +kernel
theorem dX6_plant_116 : decode cX6_plant 116 = .ok (.getfield 64, 3) := by decide +kernel
theorem dX6_plant_119 : decode cX6_plant 119 = .ok (.ireturn, 1) := by decide +kernel
theorem dX6_plant_120 : decode cX6_plant 120 = .ok (.aload_n 0, 1) := by decide +kernel
theorem dX6_plant_121 : decode cX6_plant 121 = .ok (.getfield 45, 3) := by decide +kernel
theorem dX6_plant_124 : decode cX6_plant 124 = .ok (.ireturn, 1) := by decide +kernel
theorem dX6_plant_125 : decode cX6_plant 125 = .ok (.aload_n 0, 1) := by decide +kernel
theorem dX6_plant_126 : decode cX6_plant 126 = .ok (.getfield 12, 3) := by decide +kernel
theorem dX6_plant_129 : decode cX6_plant 129 = .ok (.getfield 109, 3) := by decide +kernel
theorem dX6_plant_132 : decode cX6_plant 132 = .ok (.ireturn, 1) := by decide +kernel
theorem dX6_plant_133 : decode cX6_plant 133 = .ok (.aload_n 0, 1) := by decide +kernel
theorem dX6_plant_134 : decode cX6_plant 134 = .ok (.invokevirtual 112, 3) := by decide +kernel
theorem dX6_plant_137 : decode cX6_plant 137 = .ok (.ireturn, 1) := by decide +kernel
theorem dX6_plant_138 : decode cX6_plant 138 = .ok (.bipush (-2), 2) := by decide +kernel
theorem dX6_plant_140 : decode cX6_plant 140 = .ok (.ireturn, 1) := by decide +kernel
theorem dX6_about_0 : decode cX6_about 0 = .ok (.iload_n 1, 1) := by decide +kernel
theorem dX6_about_1 : decode cX6_about 1 = .ok (.iconst 1, 1) := by decide +kernel
theorem dX6_about_2 : decode cX6_about 2 = .ok (.invokestatic 56, 3) := by decide +kernel
theorem dX6_about_5 : decode cX6_about 5 = .ok (.ifCond .eq 8, 3) := by decide +kernel
theorem dX6_about_8 : decode cX6_about 8 = .ok (.bipush (-2), 2) := by decide +kernel
theorem dX6_about_10 : decode cX6_about 10 = .ok (.goto 13, 3) := by decide +kernel
theorem dX6_about_13 : decode cX6_about 13 = .ok (.aload_n 0, 1) := by decide +kernel
theorem dX6_about_14 : decode cX6_about 14 = .ok (.getfield 31, 3) := by decide +kernel
theorem dX6_about_17 : decode cX6_about 17 = .ok (.iload_n 1, 1) := by decide +kernel
theorem dX6_about_18 : decode cX6_about 18 = .ok (.aaload, 1) := by decide +kernel
theorem dX6_about_19 : decode cX6_about 19 = .ok (.iload_n 2, 1) := by decide +kernel
theorem dX6_about_20 : decode cX6_about 20 = .ok (.invokevirtual 116, 3) := by decide +kernel
theorem dX6_about_23 : decode cX6_about 23 = .ok (.ireturn, 1) := by decide +kernel
theorem dX6_sees_0 : decode cX6_sees 0 = .ok (.iload_n 1, 1) := by decide +kernel
theorem dX6_sees_1 : decode cX6_sees 1 = .ok (.iconst 1, 1) := by decide +kernel
theorem dX6_sees_2 : decode cX6_sees 2 = .ok (.invokestatic 56, 3) := by decide +kernel
theorem dX6_sees_5 : decode cX6_sees 5 = .ok (.ifCond .ne 20, 3) := by decide +kernel
theorem dX6_sees_8 : decode cX6_sees 8 = .ok (.iload_n 2, 1) := by decide +kernel
theorem dX6_sees_9 : decode cX6_sees 9 = .ok (.bipush 17, 2) := by decide +kernel
theorem dX6_sees_11 : decode cX6_sees 11 = .ok (.invokestatic 56, 3) := by decide +kernel
theorem dX6_sees_14 : decode cX6_sees 14 = .ok (.ifCond .ne 11, 3) := by decide +kernel
theorem dX6_sees_17 : decode cX6_sees 17 = .ok (.iload_n 3, 1) := by decide +kernel
theorem dX6_sees_18 : decode cX6_sees 18 = .ok (.iconst 1, 1) := by decide +kernel
theorem dX6_sees_19 : decode cX6_sees 19 = .ok (.invokestatic 56, 3) := by decide +kernel
theorem dX6_sees_22 : decode cX6_sees 22 = .ok (.ifCond .eq 6, 3) := by decide +kernel
theorem dX6_sees_25 : decode cX6_sees 25 = .ok (.bipush (-2), 2) := by decide +kernel
theorem dX6_sees_27 : decode cX6_sees 27 = .ok (.ireturn, 1) := by decide +kernel
theorem dX6_sees_28 : decode cX6_sees 28 = .ok (.aload_n 0, 1) := by decide +kernel
theorem dX6_sees_29 : decode cX6_sees 29 = .ok (.getfield 31, 3) := by decide +kernel
theorem dX6_sees_32 : decode cX6_sees 32 = .ok (.iload_n 1, 1) := by decide +kernel
theorem dX6_sees_33 : decode cX6_sees 33 = .ok (.aaload, 1) := by decide +kernel
theorem dX6_sees_34 : decode cX6_sees 34 = .ok (.getfield 119, 3) := by decide +kernel
theorem dX6_sees_37 : decode cX6_sees 37 = .ok (.astore 4, 2) := by decide +kernel
theorem dX6_sees_39 : decode cX6_sees 39 = .ok (.iload_n 3, 1) := by decide +kernel
theorem dX6_sees_40 : decode cX6_sees 40 = .ok (.ifCond .ne 13, 3) := by decide +kernel
theorem dX6_sees_43 : decode cX6_sees 43 = .ok (.aload 4, 2) := by decide +kernel
theorem dX6_sees_45 : decode cX6_sees 45 = .ok (.getfield 123, 3) := by decide +kernel
theorem dX6_sees_48 : decode cX6_sees 48 = .ok (.iload_n 2, 1) := by decide +kernel
theorem dX6_sees_49 : decode cX6_sees 49 = .ok (.iaload, 1) := by decide +kernel
theorem dX6_sees_50 : decode cX6_sees 50 = .ok (.goto 10, 3) := by decide +kernel
theorem dX6_sees_53 : decode cX6_sees 53 = .ok (.aload 4, 2) := by decide +kernel
theorem dX6_sees_55 : decode cX6_sees 55 = .ok (.getfield 128, 3) := by decide +kernel
theorem dX6_sees_58 : decode cX6_sees 58 = .ok (.iload_n 2, 1) := by decide +kernel
theorem dX6_sees_59 : decode cX6_sees 59 = .ok (.iaload, 1) := by decide +kernel
theorem dX6_sees_60 : decode cX6_sees 60 = .ok (.ireturn, 1) := by decide +kernel
theorem dX6_tells_0 : decode cX6_tells 0 = .ok (.iload_n 1, 1) := by decide +kernel
theorem dX6_tells_1 : decode cX6_tells 1 = .ok (.bipush 17, 2) := by decide +kernel
theorem dX6_tells_3 : decode cX6_tells 3 = .ok (.invokestatic 56, 3) := by decide +kernel
theorem dX6_tells_6 : decode cX6_tells 6 = .ok (.ifCond .ne 11, 3) := by decide +kernel
theorem dX6_tells_9 : decode cX6_tells 9 = .ok (.iload_n 2, 1) := by decide +kernel
theorem dX6_tells_10 : decode cX6_tells 10 = .ok (.iconst 2, 1) := by decide +kernel
theorem dX6_tells_11 : decode cX6_tells 11 = .ok (.invokestatic 56, 3) := by decide +kernel
theorem dX6_tells_14 : decode cX6_tells 14 = .ok (.ifCond .eq 6, 3) := by decide +kernel
theorem dX6_tells_17 : decode cX6_tells 17 = .ok (.bipush (-2), 2) := by decide +kernel
theorem dX6_tells_19 : decode cX6_tells 19 = .ok (.ireturn, 1) := by decide +kernel
theorem dX6_tells_20 : decode cX6_tells 20 = .ok (.aload_n 0, 1) := by decide +kernel
theorem dX6_tells_21 : decode cX6_tells 21 = .ok (.getfield 21, 3) := by decide +kernel
theorem dX6_tells_24 : decode cX6_tells 24 = .ok (.iload_n 1, 1) := by decide +kernel
theorem dX6_tells_25 : decode cX6_tells 25 = .ok (.iload_n 2, 1) := by decide +kernel
theorem dX6_tells_26 : decode cX6_tells 26 = .ok (.invokevirtual 131, 3) := by decide +kernel
theorem dX6_tells_29 : decode cX6_tells 29 = .ok (.ireturn, 1) := by decide +kernel
theorem dX6_lights_0 : decode cX6_lights 0 = .ok (.aload_n 0, 1) := by decide +kernel
theorem dX6_lights_1 : decode cX6_lights 1 = .ok (.getfield 49, 3) := by decide +kernel
theorem dX6_lights_4 : decode cX6_lights 4 = .ok (.ireturn, 1) := by decide +kernel
theorem dX6_log_0 : decode cX6_log 0 = .ok (.iload_n 2, 1) := by decide +kernel
theorem dX6_log_1 : decode cX6_log 1 = .ok (.iconst 2, 1) := by decide +kernel
theorem dX6_log_2 : decode cX6_log 2 = .ok (.invokestatic 56, 3) := by decide +kernel
theorem dX6_log_5 : decode cX6_log 5 = .ok (.ifCond .eq 8, 3) := by decide +kernel
theorem dX6_log_8 : decode cX6_log 8 = .ok (.bipush (-2), 2) := by decide +kernel
theorem dX6_log_10 : decode cX6_log 10 = .ok (.goto 12, 3) := by decide +kernel
theorem dX6_log_13 : decode cX6_log 13 = .ok (.aload_n 0, 1) := by decide +kernel
theorem dX6_log_14 : decode cX6_log 14 = .ok (.getfield 41, 3) := by decide +kernel
theorem dX6_log_17 : decode cX6_log 17 = .ok (.iload_n 1, 1) := by decide +kernel
theorem dX6_log_18 : decode cX6_log 18 = .ok (.iload_n 2, 1) := by decide +kernel
theorem dX6_log_19 : decode cX6_log 19 = .ok (.invokevirtual 135, 3) := by decide +kernel
theorem dX6_log_22 : decode cX6_log 22 = .ok (.ireturn, 1) := by decide +kernel
theorem dX6_logged_0 : decode cX6_logged 0 = .ok (.aload_n 0, 1) := by decide +kernel
theorem dX6_logged_1 : decode cX6_logged 1 = .ok (.getfield 41, 3) := by decide +kernel
theorem dX6_logged_4 : decode cX6_logged 4 = .ok (.getfield 138, 3) := by decide +kernel
theorem dX6_logged_7 : decode cX6_logged 7 = .ok (.ireturn, 1) := by decide +kernel
theorem dX6_bound_0 : decode cX6_bound 0 = .ok (.bipush 80, 2) := by decide +kernel
theorem dX6_bound_2 : decode cX6_bound 2 = .ok (.iconst 2, 1) := by decide +kernel
theorem dX6_bound_3 : decode cX6_bound 3 = .ok (.aload_n 0, 1) := by decide +kernel
theorem dX6_bound_4 : decode cX6_bound 4 = .ok (.getfield 12, 3) := by decide +kernel
theorem dX6_bound_7 : decode cX6_bound 7 = .ok (.iconst 0, 1) := by decide +kernel
theorem dX6_bound_8 : decode cX6_bound 8 = .ok (.invokevirtual 141, 3) := by decide +kernel
theorem dX6_bound_11 : decode cX6_bound 11 = .ok (.imul, 1) := by decide +kernel
theorem dX6_bound_12 : decode cX6_bound 12 = .ok (.iadd, 1) := by decide +kernel
theorem dX6_bound_13 : decode cX6_bound 13 = .ok (.aload_n 0, 1) := by decide +kernel
theorem dX6_bound_14 : decode cX6_bound 14 = .ok (.getfield 12, 3) := by decide +kernel
theorem dX6_bound_17 : decode cX6_bound 17 = .ok (.iconst 3, 1) := by decide +kernel
theorem dX6_bound_18 : decode cX6_bound 18 = .ok (.invokevirtual 141, 3) := by decide +kernel
theorem dX6_bound_21 : decode cX6_bound 21 = .ok (.iadd, 1) := by decide +kernel
theorem dX6_bound_22 : decode cX6_bound 22 = .ok (.ireturn, 1) := by decide +kernel
theorem dX6_safe_0 : decode cX6_safe 0 = .ok (.aload_n 0, 1) := by decide +kernel
theorem dX6_safe_1 : decode cX6_safe 1 = .ok (.getfield 12, 3) := by decide +kernel
theorem dX6_safe_4 : decode cX6_safe 4 = .ok (.getfield 109, 3) := by decide +kernel
theorem dX6_safe_7 : decode cX6_safe 7 = .ok (.ifCond .ne 14, 3) := by decide +kernel
theorem dX6_safe_10 : decode cX6_safe 10 = .ok (.aload_n 0, 1) := by decide +kernel
theorem dX6_safe_11 : decode cX6_safe 11 = .ok (.getfield 52, 3) := by decide +kernel
theorem dX6_safe_14 : decode cX6_safe 14 = .ok (.ifCond .ne 7, 3) := by decide +kernel
theorem dX6_safe_17 : decode cX6_safe 17 = .ok (.iconst 1, 1) := by decide +kernel
theorem dX6_safe_18 : decode cX6_safe 18 = .ok (.goto 4, 3) := by decide +kernel
theorem dX6_safe_21 : decode cX6_safe 21 = .ok (.iconst 0, 1) := by decide +kernel
theorem dX6_safe_22 : decode cX6_safe 22 = .ok (.ireturn, 1) := by decide +kernel
theorem dX6_tick_0 : decode cX6_tick 0 = .ok (.aload_n 0, 1) := by decide +kernel
theorem dX6_tick_1 : decode cX6_tick 1 = .ok (.invokevirtual 112, 3) := by decide +kernel
theorem dX6_tick_4 : decode cX6_tick 4 = .ok (.istore_n 1, 1) := by decide +kernel
theorem dX6_tick_5 : decode cX6_tick 5 = .ok (.iload_n 1, 1) := by decide +kernel
theorem dX6_tick_6 : decode cX6_tick 6 = .ok (.iconst 1, 1) := by decide +kernel
theorem dX6_tick_7 : decode cX6_tick 7 = .ok (.iconst 2, 1) := by decide +kernel
theorem dX6_tick_8 : decode cX6_tick 8 = .ok (.invokestatic 144, 3) := by decide +kernel
theorem dX6_tick_11 : decode cX6_tick 11 = .ok (.ifCond .ne 12, 3) := by decide +kernel
theorem dX6_tick_14 : decode cX6_tick 14 = .ok (.iload_n 1, 1) := by decide +kernel
theorem dX6_tick_15 : decode cX6_tick 15 = .ok (.iconst 3, 1) := by decide +kernel
theorem dX6_tick_16 : decode cX6_tick 16 = .ok (.iconst 4, 1) := by decide +kernel
theorem dX6_tick_17 : decode cX6_tick 17 = .ok (.invokestatic 144, 3) := by decide +kernel
theorem dX6_tick_20 : decode cX6_tick 20 = .ok (.ifCond .eq 8, 3) := by decide +kernel
theorem dX6_tick_23 : decode cX6_tick 23 = .ok (.aload_n 0, 1) := by decide +kernel
theorem dX6_tick_24 : decode cX6_tick 24 = .ok (.iconst 1, 1) := by decide +kernel
theorem dX6_tick_25 : decode cX6_tick 25 = .ok (.putfield 52, 3) := by decide +kernel
theorem dX6_tick_28 : decode cX6_tick 28 = .ok (.aload_n 0, 1) := by decide +kernel
theorem dX6_tick_29 : decode cX6_tick 29 = .ok (.dup, 1) := by decide +kernel
theorem dX6_tick_30 : decode cX6_tick 30 = .ok (.getfield 45, 3) := by decide +kernel
theorem dX6_tick_33 : decode cX6_tick 33 = .ok (.iconst 1, 1) := by decide +kernel
theorem dX6_tick_34 : decode cX6_tick 34 = .ok (.iadd, 1) := by decide +kernel
theorem dX6_tick_35 : decode cX6_tick 35 = .ok (.putfield 45, 3) := by decide +kernel
theorem dX6_tick_38 : decode cX6_tick 38 = .ok (.aload_n 0, 1) := by decide +kernel
theorem dX6_tick_39 : decode cX6_tick 39 = .ok (.getfield 12, 3) := by decide +kernel
theorem dX6_tick_42 : decode cX6_tick 42 = .ok (.iload_n 1, 1) := by decide +kernel
theorem dX6_tick_43 : decode cX6_tick 43 = .ok (.invokevirtual 148, 3) := by decide +kernel
theorem dX6_tick_46 : decode cX6_tick 46 = .ok (.aload_n 0, 1) := by decide +kernel
theorem dX6_tick_47 : decode cX6_tick 47 = .ok (.getfield 21, 3) := by decide +kernel
theorem dX6_tick_50 : decode cX6_tick 50 = .ok (.aload_n 0, 1) := by decide +kernel
theorem dX6_tick_51 : decode cX6_tick 51 = .ok (.getfield 12, 3) := by decide +kernel
theorem dX6_tick_54 : decode cX6_tick 54 = .ok (.invokevirtual 25, 3) := by decide +kernel
theorem dX6_tick_57 : decode cX6_tick 57 = .ok (.iconst 0, 1) := by decide +kernel
theorem dX6_tick_58 : decode cX6_tick 58 = .ok (.istore_n 2, 1) := by decide +kernel
theorem dX6_tick_59 : decode cX6_tick 59 = .ok (.iconst 0, 1) := by decide +kernel
theorem dX6_tick_60 : decode cX6_tick 60 = .ok (.istore_n 3, 1) := by decide +kernel
theorem dX6_tick_61 : decode cX6_tick 61 = .ok (.iload_n 3, 1) := by decide +kernel
theorem dX6_tick_62 : decode cX6_tick 62 = .ok (.iconst 2, 1) := by decide +kernel
theorem dX6_tick_63 : decode cX6_tick 63 = .ok (.if_icmp .ge 54, 3) := by decide +kernel
theorem dX6_tick_66 : decode cX6_tick 66 = .ok (.aload_n 0, 1) := by decide +kernel
theorem dX6_tick_67 : decode cX6_tick 67 = .ok (.getfield 31, 3) := by decide +kernel
theorem dX6_tick_70 : decode cX6_tick 70 = .ok (.iload_n 3, 1) := by decide +kernel
theorem dX6_tick_71 : decode cX6_tick 71 = .ok (.aaload, 1) := by decide +kernel
theorem dX6_tick_72 : decode cX6_tick 72 = .ok (.getfield 84, 3) := by decide +kernel
theorem dX6_tick_75 : decode cX6_tick 75 = .ok (.ifCond .ne 36, 3) := by decide +kernel
theorem dX6_tick_78 : decode cX6_tick 78 = .ok (.aload_n 0, 1) := by decide +kernel
theorem dX6_tick_79 : decode cX6_tick 79 = .ok (.getfield 31, 3) := by decide +kernel
theorem dX6_tick_82 : decode cX6_tick 82 = .ok (.iload_n 3, 1) := by decide +kernel
theorem dX6_tick_83 : decode cX6_tick 83 = .ok (.aaload, 1) := by decide +kernel
theorem dX6_tick_84 : decode cX6_tick 84 = .ok (.aload_n 0, 1) := by decide +kernel
theorem dX6_tick_85 : decode cX6_tick 85 = .ok (.getfield 21, 3) := by decide +kernel
theorem dX6_tick_88 : decode cX6_tick 88 = .ok (.aload_n 0, 1) := by decide +kernel
theorem dX6_tick_89 : decode cX6_tick 89 = .ok (.getfield 41, 3) := by decide +kernel
theorem dX6_tick_92 : decode cX6_tick 92 = .ok (.aload_n 0, 1) := by decide +kernel
theorem dX6_tick_93 : decode cX6_tick 93 = .ok (.getfield 45, 3) := by decide +kernel
theorem dX6_tick_96 : decode cX6_tick 96 = .ok (.invokevirtual 152, 3) := by decide +kernel
theorem dX6_tick_99 : decode cX6_tick 99 = .ok (.iload_n 2, 1) := by decide +kernel
theorem dX6_tick_100 : decode cX6_tick 100 = .ok (.aload_n 0, 1) := by decide +kernel
theorem dX6_tick_101 : decode cX6_tick 101 = .ok (.getfield 31, 3) := by decide +kernel
theorem dX6_tick_104 : decode cX6_tick 104 = .ok (.iload_n 3, 1) := by decide +kernel
theorem dX6_tick_105 : decode cX6_tick 105 = .ok (.aaload, 1) := by decide +kernel
theorem dX6_tick_106 : decode cX6_tick 106 = .ok (.invokevirtual 156, 3) := by decide +kernel
theorem dX6_tick_109 : decode cX6_tick 109 = .ok (.ior, 1) := by decide +kernel
theorem dX6_tick_110 : decode cX6_tick 110 = .ok (.istore_n 2, 1) := by decide +kernel
theorem dX6_tick_111 : decode cX6_tick 111 = .ok (.iinc 3 1, 3) := by decide +kernel
theorem dX6_tick_114 : decode cX6_tick 114 = .ok (.goto (-53), 3) := by decide +kernel
theorem dX6_tick_117 : decode cX6_tick 117 = .ok (.aload_n 0, 1) := by decide +kernel
theorem dX6_tick_118 : decode cX6_tick 118 = .ok (.iload_n 2, 1) := by decide +kernel
theorem dX6_tick_119 : decode cX6_tick 119 = .ok (.putfield 49, 3) := by decide +kernel
theorem dX6_tick_122 : decode cX6_tick 122 = .ok (.return_, 1) := by decide +kernel
theorem dX6_ordered_0 : decode cX6_ordered 0 = .ok (.iconst 0, 1) := by decide +kernel
theorem dX6_ordered_1 : decode cX6_ordered 1 = .ok (.istore_n 1, 1) := by decide +kernel
theorem dX6_ordered_2 : decode cX6_ordered 2 = .ok (.iconst 0, 1) := by decide +kernel
theorem dX6_ordered_3 : decode cX6_ordered 3 = .ok (.istore_n 2, 1) := by decide +kernel
theorem dX6_ordered_4 : decode cX6_ordered 4 = .ok (.iload_n 2, 1) := by decide +kernel
theorem dX6_ordered_5 : decode cX6_ordered 5 = .ok (.iconst 2, 1) := by decide +kernel
theorem dX6_ordered_6 : decode cX6_ordered 6 = .ok (.if_icmp .ge 21, 3) := by decide +kernel
theorem dX6_ordered_9 : decode cX6_ordered 9 = .ok (.iload_n 1, 1) := by decide +kernel
theorem dX6_ordered_10 : decode cX6_ordered 10 = .ok (.aload_n 0, 1) := by decide +kernel
theorem dX6_ordered_11 : decode cX6_ordered 11 = .ok (.getfield 31, 3) := by decide +kernel
theorem dX6_ordered_14 : decode cX6_ordered 14 = .ok (.iload_n 2, 1) := by decide +kernel
theorem dX6_ordered_15 : decode cX6_ordered 15 = .ok (.aaload, 1) := by decide +kernel
theorem dX6_ordered_16 : decode cX6_ordered 16 = .ok (.invokevirtual 159, 3) := by decide +kernel
theorem dX6_ordered_19 : decode cX6_ordered 19 = .ok (.ior, 1) := by decide +kernel
theorem dX6_ordered_20 : decode cX6_ordered 20 = .ok (.istore_n 1, 1) := by decide +kernel
theorem dX6_ordered_21 : decode cX6_ordered 21 = .ok (.iinc 2 1, 3) := by decide +kernel
theorem dX6_ordered_24 : decode cX6_ordered 24 = .ok (.goto (-20), 3) := by decide +kernel
theorem dX6_ordered_27 : decode cX6_ordered 27 = .ok (.iload_n 1, 1) := by decide +kernel
theorem dX6_ordered_28 : decode cX6_ordered 28 = .ok (.ireturn, 1) := by decide +kernel
theorem dX6_unsettled_0 : decode cX6_unsettled 0 = .ok (.iconst 0, 1) := by decide +kernel
theorem dX6_unsettled_1 : decode cX6_unsettled 1 = .ok (.istore_n 1, 1) := by decide +kernel
theorem dX6_unsettled_2 : decode cX6_unsettled 2 = .ok (.iconst 0, 1) := by decide +kernel
theorem dX6_unsettled_3 : decode cX6_unsettled 3 = .ok (.istore_n 2, 1) := by decide +kernel
theorem dX6_unsettled_4 : decode cX6_unsettled 4 = .ok (.iload_n 2, 1) := by decide +kernel
theorem dX6_unsettled_5 : decode cX6_unsettled 5 = .ok (.iconst 2, 1) := by decide +kernel
theorem dX6_unsettled_6 : decode cX6_unsettled 6 = .ok (.if_icmp .ge 31, 3) := by decide +kernel
theorem dX6_unsettled_9 : decode cX6_unsettled 9 = .ok (.iload_n 1, 1) := by decide +kernel
theorem dX6_unsettled_10 : decode cX6_unsettled 10 = .ok (.ifCond .ne 15, 3) := by decide +kernel
theorem dX6_unsettled_13 : decode cX6_unsettled 13 = .ok (.aload_n 0, 1) := by decide +kernel
theorem dX6_unsettled_14 : decode cX6_unsettled 14 = .ok (.getfield 31, 3) := by decide +kernel
theorem dX6_unsettled_17 : decode cX6_unsettled 17 = .ok (.iload_n 2, 1) := by decide +kernel
theorem dX6_unsettled_18 : decode cX6_unsettled 18 = .ok (.aaload, 1) := by decide +kernel
theorem dX6_unsettled_19 : decode cX6_unsettled 19 = .ok (.invokevirtual 162, 3) := by decide +kernel
theorem dX6_unsettled_22 : decode cX6_unsettled 22 = .ok (.ifCond .eq 7, 3) := by decide +kernel
theorem dX6_unsettled_25 : decode cX6_unsettled 25 = .ok (.iconst 1, 1) := by decide +kernel
theorem dX6_unsettled_26 : decode cX6_unsettled 26 = .ok (.goto 4, 3) := by decide +kernel
theorem dX6_unsettled_29 : decode cX6_unsettled 29 = .ok (.iconst 0, 1) := by decide +kernel
theorem dX6_unsettled_30 : decode cX6_unsettled 30 = .ok (.istore_n 1, 1) := by decide +kernel
theorem dX6_unsettled_31 : decode cX6_unsettled 31 = .ok (.iinc 2 1, 3) := by decide +kernel
theorem dX6_unsettled_34 : decode cX6_unsettled 34 = .ok (.goto (-30), 3) := by decide +kernel
theorem dX6_unsettled_37 : decode cX6_unsettled 37 = .ok (.iload_n 1, 1) := by decide +kernel
theorem dX6_unsettled_38 : decode cX6_unsettled 38 = .ok (.ireturn, 1) := by decide +kernel
theorem dX6_outside_0 : decode cX6_outside 0 = .ok (.iload_n 0, 1) := by decide +kernel
theorem dX6_outside_1 : decode cX6_outside 1 = .ok (.ifCond .lt 8, 3) := by decide +kernel
theorem dX6_outside_4 : decode cX6_outside 4 = .ok (.iload_n 0, 1) := by decide +kernel
theorem dX6_outside_5 : decode cX6_outside 5 = .ok (.iload_n 1, 1) := by decide +kernel
theorem dX6_outside_6 : decode cX6_outside 6 = .ok (.if_icmp .le 7, 3) := by decide +kernel
theorem dX6_outside_9 : decode cX6_outside 9 = .ok (.iconst 1, 1) := by decide +kernel
theorem dX6_outside_10 : decode cX6_outside 10 = .ok (.goto 4, 3) := by decide +kernel
theorem dX6_outside_13 : decode cX6_outside 13 = .ok (.iconst 0, 1) := by decide +kernel
theorem dX6_outside_14 : decode cX6_outside 14 = .ok (.ireturn, 1) := by decide +kernel
theorem dX6_exchange_0 : decode cX6_exchange 0 = .ok (.aload_n 0, 1) := by decide +kernel
theorem dX6_exchange_1 : decode cX6_exchange 1 = .ok (.iload_n 1, 1) := by decide +kernel
theorem dX6_exchange_2 : decode cX6_exchange 2 = .ok (.iaload, 1) := by decide +kernel
theorem dX6_exchange_3 : decode cX6_exchange 3 = .ok (.istore_n 3, 1) := by decide +kernel
theorem dX6_exchange_4 : decode cX6_exchange 4 = .ok (.aload_n 0, 1) := by decide +kernel
theorem dX6_exchange_5 : decode cX6_exchange 5 = .ok (.iload_n 1, 1) := by decide +kernel
theorem dX6_exchange_6 : decode cX6_exchange 6 = .ok (.iload_n 2, 1) := by decide +kernel
theorem dX6_exchange_7 : decode cX6_exchange 7 = .ok (.iastore, 1) := by decide +kernel
theorem dX6_exchange_8 : decode cX6_exchange 8 = .ok (.iload_n 3, 1) := by decide +kernel
theorem dX6_exchange_9 : decode cX6_exchange 9 = .ok (.ireturn, 1) := by decide +kernel
theorem dX6_bit_0 : decode cX6_bit 0 = .ok (.iload_n 0, 1) := by decide +kernel
theorem dX6_bit_1 : decode cX6_bit 1 = .ok (.ifCond .eq 7, 3) := by decide +kernel
theorem dX6_bit_4 : decode cX6_bit 4 = .ok (.iconst 1, 1) := by decide +kernel
theorem dX6_bit_5 : decode cX6_bit 5 = .ok (.goto 4, 3) := by decide +kernel
theorem dX6_bit_8 : decode cX6_bit 8 = .ok (.iconst 0, 1) := by decide +kernel
theorem dX6_bit_9 : decode cX6_bit 9 = .ok (.ireturn, 1) := by decide +kernel
theorem dX6_has_0 : decode cX6_has 0 = .ok (.iload_n 0, 1) := by decide +kernel
theorem dX6_has_1 : decode cX6_has 1 = .ok (.iload_n 1, 1) := by decide +kernel
theorem dX6_has_2 : decode cX6_has 2 = .ok (.ishr, 1) := by decide +kernel
theorem dX6_has_3 : decode cX6_has 3 = .ok (.iconst 1, 1) := by decide +kernel
theorem dX6_has_4 : decode cX6_has 4 = .ok (.iand, 1) := by decide +kernel
theorem dX6_has_5 : decode cX6_has 5 = .ok (.iconst 1, 1) := by decide +kernel
theorem dX6_has_6 : decode cX6_has 6 = .ok (.if_icmp .ne 7, 3) := by decide +kernel
theorem dX6_has_9 : decode cX6_has 9 = .ok (.iconst 1, 1) := by decide +kernel
theorem dX6_has_10 : decode cX6_has 10 = .ok (.goto 4, 3) := by decide +kernel
theorem dX6_has_13 : decode cX6_has 13 = .ok (.iconst 0, 1) := by decide +kernel
theorem dX6_has_14 : decode cX6_has 14 = .ok (.ireturn, 1) := by decide +kernel
theorem dX6_both_0 : decode cX6_both 0 = .ok (.iload_n 0, 1) := by decide +kernel
theorem dX6_both_1 : decode cX6_both 1 = .ok (.iload_n 1, 1) := by decide +kernel
theorem dX6_both_2 : decode cX6_both 2 = .ok (.invokestatic 165, 3) := by decide +kernel
theorem dX6_both_5 : decode cX6_both 5 = .ok (.ifCond .eq 15, 3) := by decide +kernel
theorem dX6_both_8 : decode cX6_both 8 = .ok (.iload_n 0, 1) := by decide +kernel
theorem dX6_both_9 : decode cX6_both 9 = .ok (.iload_n 2, 1) := by decide +kernel
theorem dX6_both_10 : decode cX6_both 10 = .ok (.invokestatic 165, 3) := by decide +kernel
theorem dX6_both_13 : decode cX6_both 13 = .ok (.ifCond .eq 7, 3) := by decide +kernel
theorem dX6_both_16 : decode cX6_both 16 = .ok (.iconst 1, 1) := by decide +kernel
theorem dX6_both_17 : decode cX6_both 17 = .ok (.goto 4, 3) := by decide +kernel
theorem dX6_both_20 : decode cX6_both 20 = .ok (.iconst 0, 1) := by decide +kernel
theorem dX6_both_21 : decode cX6_both 21 = .ok (.ireturn, 1) := by decide +kernel
end
section
theorem dX7_init_0 : decode cX7_init 0 = .ok (.aload_n 0, 1) := by decide +kernel
theorem dX7_init_1 : decode cX7_init 1 = .ok (.invokespecial 1, 3) := by decide +kernel
theorem dX7_init_4 : decode cX7_init 4 = .ok (.aload_n 0, 1) := by decide +kernel
theorem dX7_init_5 : decode cX7_init 5 = .ok (.iconst 1, 1) := by decide +kernel
theorem dX7_init_6 : decode cX7_init 6 = .ok (.putfield 7, 3) := by decide +kernel
theorem dX7_init_9 : decode cX7_init 9 = .ok (.aload_n 0, 1) := by decide +kernel
theorem dX7_init_10 : decode cX7_init 10 = .ok (.bipush 7, 2) := by decide +kernel
theorem dX7_init_12 : decode cX7_init 12 = .ok (.putfield 13, 3) := by decide +kernel
theorem dX7_init_15 : decode cX7_init 15 = .ok (.aload_n 0, 1) := by decide +kernel
theorem dX7_init_16 : decode cX7_init 16 = .ok (.iconst 1, 1) := by decide +kernel
theorem dX7_init_17 : decode cX7_init 17 = .ok (.putfield 16, 3) := by decide +kernel
theorem dX7_init_20 : decode cX7_init 20 = .ok (.aload_n 0, 1) := by decide +kernel
theorem dX7_init_21 : decode cX7_init 21 = .ok (.iconst 5, 1) := by decide +kernel
theorem dX7_init_22 : decode cX7_init 22 = .ok (.newarray .int, 2) := by decide +kernel
theorem dX7_init_24 : decode cX7_init 24 = .ok (.putfield 19, 3) := by decide +kernel
theorem dX7_init_27 : decode cX7_init 27 = .ok (.aload_n 0, 1) := by decide +kernel
theorem dX7_init_28 : decode cX7_init 28 = .ok (.iconst 5, 1) := by decide +kernel
theorem dX7_init_29 : decode cX7_init 29 = .ok (.newarray .int, 2) := by decide +kernel
theorem dX7_init_31 : decode cX7_init 31 = .ok (.putfield 23, 3) := by decide +kernel
theorem dX7_init_34 : decode cX7_init 34 = .ok (.aload_n 0, 1) := by decide +kernel
theorem dX7_init_35 : decode cX7_init 35 = .ok (.bipush 6, 2) := by decide +kernel
theorem dX7_init_37 : decode cX7_init 37 = .ok (.newarray .int, 2) := by decide +kernel
theorem dX7_init_39 : decode cX7_init 39 = .ok (.putfield 26, 3) := by decide +kernel
theorem dX7_init_42 : decode cX7_init 42 = .ok (.aload_n 0, 1) := by decide +kernel
theorem dX7_init_43 : decode cX7_init 43 = .ok (.bipush 6, 2) := by decide +kernel
theorem dX7_init_45 : decode cX7_init 45 = .ok (.newarray .int, 2) := by decide +kernel
theorem dX7_init_47 : decode cX7_init 47 = .ok (.putfield 29, 3) := by decide +kernel
theorem dX7_init_50 : decode cX7_init 50 = .ok (.aload_n 0, 1) := by decide +kernel
theorem dX7_init_51 : decode cX7_init 51 = .ok (.bipush 6, 2) := by decide +kernel
theorem dX7_init_53 : decode cX7_init 53 = .ok (.newarray .int, 2) := by decide +kernel
theorem dX7_init_55 : decode cX7_init 55 = .ok (.putfield 32, 3) := by decide +kernel
theorem dX7_init_58 : decode cX7_init 58 = .ok (.aload_n 0, 1) := by decide +kernel
theorem dX7_init_59 : decode cX7_init 59 = .ok (.bipush 54, 2) := by decide +kernel
theorem dX7_init_61 : decode cX7_init 61 = .ok (.newarray .int, 2) := by decide +kernel
theorem dX7_init_63 : decode cX7_init 63 = .ok (.putfield 35, 3) := by decide +kernel
theorem dX7_init_66 : decode cX7_init 66 = .ok (.aload_n 0, 1) := by decide +kernel
theorem dX7_init_67 : decode cX7_init 67 = .ok (.iconst 2, 1) := by decide +kernel
theorem dX7_init_68 : decode cX7_init 68 = .ok (.newarray .int, 2) := by decide +kernel
theorem dX7_init_70 : decode cX7_init 70 = .ok (.putfield 38, 3) := by decide +kernel
theorem dX7_init_73 : decode cX7_init 73 = .ok (.aload_n 0, 1) := by decide +kernel
theorem dX7_init_74 : decode cX7_init 74 = .ok (.iconst 2, 1) := by decide +kernel
theorem dX7_init_75 : decode cX7_init 75 = .ok (.newarray .int, 2) := by decide +kernel
theorem dX7_init_77 : decode cX7_init 77 = .ok (.putfield 41, 3) := by decide +kernel
theorem dX7_init_80 : decode cX7_init 80 = .ok (.aload_n 0, 1) := by decide +kernel
theorem dX7_init_81 : decode cX7_init 81 = .ok (.iconst 2, 1) := by decide +kernel
theorem dX7_init_82 : decode cX7_init 82 = .ok (.newarray .int, 2) := by decide +kernel
theorem dX7_init_84 : decode cX7_init 84 = .ok (.putfield 44, 3) := by decide +kernel
theorem dX7_init_87 : decode cX7_init 87 = .ok (.aload_n 0, 1) := by decide +kernel
theorem dX7_init_88 : decode cX7_init 88 = .ok (.iconst 2, 1) := by decide +kernel
theorem dX7_init_89 : decode cX7_init 89 = .ok (.newarray .int, 2) := by decide +kernel
theorem dX7_init_91 : decode cX7_init 91 = .ok (.putfield 47, 3) := by decide +kernel
theorem dX7_init_94 : decode cX7_init 94 = .ok (.aload_n 0, 1) := by decide +kernel
theorem dX7_init_95 : decode cX7_init 95 = .ok (.iconst 2, 1) := by decide +kernel
theorem dX7_init_96 : decode cX7_init 96 = .ok (.newarray .boolean, 2) := by decide +kernel
theorem dX7_init_98 : decode cX7_init 98 = .ok (.putfield 50, 3) := by decide +kernel
theorem dX7_init_101 : decode cX7_init 101 = .ok (.aload_n 0, 1) := by decide +kernel
theorem dX7_init_102 : decode cX7_init 102 = .ok (.iconst 2, 1) := by decide +kernel
theorem dX7_init_103 : decode cX7_init 103 = .ok (.newarray .int, 2) := by decide +kernel
theorem dX7_init_105 : decode cX7_init 105 = .ok (.putfield 54, 3) := by decide +kernel
theorem dX7_init_108 : decode cX7_init 108 = .ok (.aload_n 0, 1) := by decide +kernel
theorem dX7_init_109 : decode cX7_init 109 = .ok (.iconst 2, 1) := by decide +kernel
theorem dX7_init_110 : decode cX7_init 110 = .ok (.newarray .int, 2) := by decide +kernel
theorem dX7_init_112 : decode cX7_init 112 = .ok (.putfield 57, 3) := by decide +kernel
theorem dX7_init_115 : decode cX7_init 115 = .ok (.aload_n 0, 1) := by decide +kernel
theorem dX7_init_116 : decode cX7_init 116 = .ok (.bipush 10, 2) := by decide +kernel
theorem dX7_init_118 : decode cX7_init 118 = .ok (.newarray .int, 2) := by decide +kernel
theorem dX7_init_120 : decode cX7_init 120 = .ok (.putfield 60, 3) := by decide +kernel
theorem dX7_init_123 : decode cX7_init 123 = .ok (.aload_n 0, 1) := by decide +kernel
theorem dX7_init_124 : decode cX7_init 124 = .ok (.iconst 2, 1) := by decide +kernel
theorem dX7_init_125 : decode cX7_init 125 = .ok (.newarray .int, 2) := by decide +kernel
theorem dX7_init_127 : decode cX7_init 127 = .ok (.putfield 63, 3) := by decide +kernel
theorem dX7_init_130 : decode cX7_init 130 = .ok (.aload_n 0, 1) := by decide +kernel
theorem dX7_init_131 : decode cX7_init 131 = .ok (.bipush 36, 2) := by decide +kernel
theorem dX7_init_133 : decode cX7_init 133 = .ok (.newarray .int, 2) := by decide +kernel
theorem dX7_init_135 : decode cX7_init 135 = .ok (.putfield 66, 3) := by decide +kernel
theorem dX7_init_138 : decode cX7_init 138 = .ok (.aload_n 0, 1) := by decide +kernel
theorem dX7_init_139 : decode cX7_init 139 = .ok (.bipush 36, 2) := by decide +kernel
theorem dX7_init_141 : decode cX7_init 141 = .ok (.newarray .int, 2) := by decide +kernel
theorem dX7_init_143 : decode cX7_init 143 = .ok (.putfield 69, 3) := by decide +kernel
theorem dX7_init_146 : decode cX7_init 146 = .ok (.aload_n 0, 1) := by decide +kernel
theorem dX7_init_147 : decode cX7_init 147 = .ok (.bipush 36, 2) := by decide +kernel
theorem dX7_init_149 : decode cX7_init 149 = .ok (.newarray .boolean, 2) := by decide +kernel
theorem dX7_init_151 : decode cX7_init 151 = .ok (.putfield 72, 3) := by decide +kernel
theorem dX7_init_154 : decode cX7_init 154 = .ok (.aload_n 0, 1) := by decide +kernel
theorem dX7_init_155 : decode cX7_init 155 = .ok (.bipush 18, 2) := by decide +kernel
theorem dX7_init_157 : decode cX7_init 157 = .ok (.newarray .int, 2) := by decide +kernel
theorem dX7_init_159 : decode cX7_init 159 = .ok (.putfield 75, 3) := by decide +kernel
theorem dX7_init_162 : decode cX7_init 162 = .ok (.aload_n 0, 1) := by decide +kernel
theorem dX7_init_163 : decode cX7_init 163 = .ok (.sipush 192, 3) := by decide +kernel
theorem dX7_init_166 : decode cX7_init 166 = .ok (.newarray .int, 2) := by decide +kernel
theorem dX7_init_168 : decode cX7_init 168 = .ok (.putfield 78, 3) := by decide +kernel
theorem dX7_init_171 : decode cX7_init 171 = .ok (.aload_n 0, 1) := by decide +kernel
theorem dX7_init_172 : decode cX7_init 172 = .ok (.getfield 26, 3) := by decide +kernel
theorem dX7_init_175 : decode cX7_init 175 = .ok (.iconst 0, 1) := by decide +kernel
theorem dX7_init_176 : decode cX7_init 176 = .ok (.iload_n 1, 1) := by decide +kernel
theorem dX7_init_177 : decode cX7_init 177 = .ok (.invokestatic 81, 3) := by decide +kernel
theorem dX7_init_180 : decode cX7_init 180 = .ok (.iastore, 1) := by decide +kernel
theorem dX7_init_181 : decode cX7_init 181 = .ok (.aload_n 0, 1) := by decide +kernel
theorem dX7_init_182 : decode cX7_init 182 = .ok (.getfield 26, 3) := by decide +kernel
theorem dX7_init_185 : decode cX7_init 185 = .ok (.iconst 1, 1) := by decide +kernel
theorem dX7_init_186 : decode cX7_init 186 = .ok (.iload_n 2, 1) := by decide +kernel
theorem dX7_init_187 : decode cX7_init 187 = .ok (.invokestatic 81, 3) := by decide +kernel
theorem dX7_init_190 : decode cX7_init 190 = .ok (.iastore, 1) := by decide +kernel
theorem dX7_init_191 : decode cX7_init 191 = .ok (.aload_n 0, 1) := by decide +kernel
theorem dX7_init_192 : decode cX7_init 192 = .ok (.getfield 26, 3) := by decide +kernel
theorem dX7_init_195 : decode cX7_init 195 = .ok (.iconst 2, 1) := by decide +kernel
theorem dX7_init_196 : decode cX7_init 196 = .ok (.aload_n 0, 1) := by decide +kernel
theorem dX7_init_197 : decode cX7_init 197 = .ok (.getfield 26, 3) := by decide +kernel
theorem dX7_init_200 : decode cX7_init 200 = .ok (.iconst 1, 1) := by decide +kernel
theorem dX7_init_201 : decode cX7_init 201 = .ok (.iaload, 1) := by decide +kernel
theorem dX7_init_202 : decode cX7_init 202 = .ok (.iastore, 1) := by decide +kernel
theorem dX7_init_203 : decode cX7_init 203 = .ok (.aload_n 0, 1) := by decide +kernel
theorem dX7_init_204 : decode cX7_init 204 = .ok (.getfield 26, 3) := by decide +kernel
theorem dX7_init_207 : decode cX7_init 207 = .ok (.iconst 3, 1) := by decide +kernel
theorem dX7_init_208 : decode cX7_init 208 = .ok (.iload_n 3, 1) := by decide +kernel
theorem dX7_init_209 : decode cX7_init 209 = .ok (.invokestatic 81, 3) := by decide +kernel
theorem dX7_init_212 : decode cX7_init 212 = .ok (.iastore, 1) := by decide +kernel
theorem dX7_init_213 : decode cX7_init 213 = .ok (.aload_n 0, 1) := by decide +kernel
theorem dX7_init_214 : decode cX7_init 214 = .ok (.getfield 26, 3) := by decide +kernel
theorem dX7_init_217 : decode cX7_init 217 = .ok (.iconst 4, 1) := by decide +kernel
theorem dX7_init_218 : decode cX7_init 218 = .ok (.iload 4, 2) := by decide +kernel
theorem dX7_init_220 : decode cX7_init 220 = .ok (.invokestatic 81, 3) := by decide +kernel
theorem dX7_init_223 : decode cX7_init 223 = .ok (.iastore, 1) := by decide +kernel
theorem dX7_init_224 : decode cX7_init 224 = .ok (.aload_n 0, 1) := by decide +kernel
theorem dX7_init_225 : decode cX7_init 225 = .ok (.getfield 26, 3) := by decide +kernel
theorem dX7_init_228 : decode cX7_init 228 = .ok (.iconst 5, 1) := by decide +kernel
theorem dX7_init_229 : decode cX7_init 229 = .ok (.aload_n 0, 1) := by decide +kernel
theorem dX7_init_230 : decode cX7_init 230 = .ok (.getfield 26, 3) := by decide +kernel
theorem dX7_init_233 : decode cX7_init 233 = .ok (.iconst 4, 1) := by decide +kernel
theorem dX7_init_234 : decode cX7_init 234 = .ok (.iaload, 1) := by decide +kernel
theorem dX7_init_235 : decode cX7_init 235 = .ok (.iastore, 1) := by decide +kernel
theorem dX7_init_236 : decode cX7_init 236 = .ok (.iconst 3, 1) := by decide +kernel
theorem dX7_init_237 : decode cX7_init 237 = .ok (.istore 5, 2) := by decide +kernel
theorem dX7_init_239 : decode cX7_init 239 = .ok (.iload 5, 2) := by decide +kernel
theorem dX7_init_241 : decode cX7_init 241 = .ok (.bipush 6, 2) := by decide +kernel
theorem dX7_init_243 : decode cX7_init 243 = .ok (.if_icmp .ge 23, 3) := by decide +kernel
theorem dX7_init_246 : decode cX7_init 246 = .ok (.aload_n 0, 1) := by decide +kernel
theorem dX7_init_247 : decode cX7_init 247 = .ok (.getfield 29, 3) := by decide +kernel
theorem dX7_init_250 : decode cX7_init 250 = .ok (.iload 5, 2) := by decide +kernel
theorem dX7_init_252 : decode cX7_init 252 = .ok (.aload_n 0, 1) := by decide +kernel
theorem dX7_init_253 : decode cX7_init 253 = .ok (.getfield 26, 3) := by decide +kernel
theorem dX7_init_256 : decode cX7_init 256 = .ok (.iload 5, 2) := by decide +kernel
theorem dX7_init_258 : decode cX7_init 258 = .ok (.iaload, 1) := by decide +kernel
theorem dX7_init_259 : decode cX7_init 259 = .ok (.iastore, 1) := by decide +kernel
theorem dX7_init_260 : decode cX7_init 260 = .ok (.iinc 5 1, 3) := by decide +kernel
theorem dX7_init_263 : decode cX7_init 263 = .ok (.goto (-24), 3) := by decide +kernel
theorem dX7_init_266 : decode cX7_init 266 = .ok (.aload_n 0, 1) := by decide +kernel
theorem dX7_init_267 : decode cX7_init 267 = .ok (.invokevirtual 85, 3) := by decide +kernel
theorem dX7_init_270 : decode cX7_init 270 = .ok (.iconst 0, 1) := by decide +kernel
theorem dX7_init_271 : decode cX7_init 271 = .ok (.istore 5, 2) := by decide +kernel
theorem dX7_init_273 : decode cX7_init 273 = .ok (.iload 5, 2) := by decide +kernel
theorem dX7_init_275 : decode cX7_init 275 = .ok (.iconst 2, 1) := by decide +kernel
theorem dX7_init_276 : decode cX7_init 276 = .ok (.if_icmp .ge 75, 3) := by decide +kernel
theorem dX7_init_279 : decode cX7_init 279 = .ok (.aload_n 0, 1) := by decide +kernel
theorem dX7_init_280 : decode cX7_init 280 = .ok (.getfield 44, 3) := by decide +kernel
theorem dX7_init_283 : decode cX7_init 283 = .ok (.iload 5, 2) := by decide +kernel
theorem dX7_init_285 : decode cX7_init 285 = .ok (.iconst 1, 1) := by decide +kernel
theorem dX7_init_286 : decode cX7_init 286 = .ok (.iastore, 1) := by decide +kernel
theorem dX7_init_287 : decode cX7_init 287 = .ok (.aload_n 0, 1) := by decide +kernel
theorem dX7_init_288 : decode cX7_init 288 = .ok (.getfield 57, 3) := by decide +kernel
theorem dX7_init_291 : decode cX7_init 291 = .ok (.iload 5, 2) := by decide +kernel
theorem dX7_init_293 : decode cX7_init 293 = .ok (.iconst (-1), 1) := by decide +kernel
theorem dX7_init_294 : decode cX7_init 294 = .ok (.iastore, 1) := by decide +kernel
theorem dX7_init_295 : decode cX7_init 295 = .ok (.iconst 0, 1) := by decide +kernel
theorem dX7_init_296 : decode cX7_init 296 = .ok (.istore 6, 2) := by decide +kernel
theorem dX7_init_298 : decode cX7_init 298 = .ok (.iload 6, 2) := by decide +kernel
theorem dX7_init_300 : decode cX7_init 300 = .ok (.bipush 18, 2) := by decide +kernel
theorem dX7_init_302 : decode cX7_init 302 = .ok (.if_icmp .ge 43, 3) := by decide +kernel
theorem dX7_init_305 : decode cX7_init 305 = .ok (.aload_n 0, 1) := by decide +kernel
theorem dX7_init_306 : decode cX7_init 306 = .ok (.getfield 66, 3) := by decide +kernel
theorem dX7_init_309 : decode cX7_init 309 = .ok (.bipush 18, 2) := by decide +kernel
theorem dX7_init_311 : decode cX7_init 311 = .ok (.iload 5, 2) := by decide +kernel
theorem dX7_init_313 : decode cX7_init 313 = .ok (.imul, 1) := by decide +kernel
theorem dX7_init_314 : decode cX7_init 314 = .ok (.iload 6, 2) := by decide +kernel
theorem dX7_init_316 : decode cX7_init 316 = .ok (.iadd, 1) := by decide +kernel
theorem dX7_init_317 : decode cX7_init 317 = .ok (.aload_n 0, 1) := by decide +kernel
theorem dX7_init_318 : decode cX7_init 318 = .ok (.iload 6, 2) := by decide +kernel
theorem dX7_init_320 : decode cX7_init 320 = .ok (.invokevirtual 88, 3) := by decide +kernel
theorem dX7_init_323 : decode cX7_init 323 = .ok (.iastore, 1) := by decide +kernel
theorem dX7_init_324 : decode cX7_init 324 = .ok (.aload_n 0, 1) := by decide +kernel
theorem dX7_init_325 : decode cX7_init 325 = .ok (.getfield 69, 3) := by decide +kernel
theorem dX7_init_328 : decode cX7_init 328 = .ok (.bipush 18, 2) := by decide +kernel
theorem dX7_init_330 : decode cX7_init 330 = .ok (.iload 5, 2) := by decide +kernel
theorem dX7_init_332 : decode cX7_init 332 = .ok (.imul, 1) := by decide +kernel
theorem dX7_init_333 : decode cX7_init 333 = .ok (.iload 6, 2) := by decide +kernel
theorem dX7_init_335 : decode cX7_init 335 = .ok (.iadd, 1) := by decide +kernel
theorem dX7_init_336 : decode cX7_init 336 = .ok (.bipush 7, 2) := by decide +kernel
theorem dX7_init_338 : decode cX7_init 338 = .ok (.iastore, 1) := by decide +kernel
theorem dX7_init_339 : decode cX7_init 339 = .ok (.iinc 6 1, 3) := by decide +kernel
theorem dX7_init_342 : decode cX7_init 342 = .ok (.goto (-44), 3) := by decide +kernel
theorem dX7_init_345 : decode cX7_init 345 = .ok (.iinc 5 1, 3) := by decide +kernel
theorem dX7_init_348 : decode cX7_init 348 = .ok (.goto (-75), 3) := by decide +kernel
theorem dX7_init_351 : decode cX7_init 351 = .ok (.return_, 1) := by decide +kernel
theorem dX7_lengthOf_0 : decode cX7_lengthOf 0 = .ok (.iload_n 0, 1) := by decide +kernel
theorem dX7_lengthOf_1 : decode cX7_lengthOf 1 = .ok (.iconst 5, 1) := by decide +kernel
theorem dX7_lengthOf_2 : decode cX7_lengthOf 2 = .ok (.if_icmp .lt 9, 3) := by decide +kernel
theorem dX7_lengthOf_5 : decode cX7_lengthOf 5 = .ok (.iload_n 0, 1) := by decide +kernel
theorem dX7_lengthOf_6 : decode cX7_lengthOf 6 = .ok (.bipush 40, 2) := by decide +kernel
theorem dX7_lengthOf_8 : decode cX7_lengthOf 8 = .ok (.if_icmp .le 8, 3) := by decide +kernel
theorem dX7_lengthOf_11 : decode cX7_lengthOf 11 = .ok (.bipush 15, 2) := by decide +kernel
theorem dX7_lengthOf_13 : decode cX7_lengthOf 13 = .ok (.goto 4, 3) := by decide +kernel
theorem dX7_lengthOf_16 : decode cX7_lengthOf 16 = .ok (.iload_n 0, 1) := by decide +kernel
theorem dX7_lengthOf_17 : decode cX7_lengthOf 17 = .ok (.ireturn, 1) := by decide +kernel
theorem dX7_in_0 : decode cX7_in 0 = .ok (.iload_n 0, 1) := by decide +kernel
theorem dX7_in_1 : decode cX7_in 1 = .ok (.iload_n 1, 1) := by decide +kernel
theorem dX7_in_2 : decode cX7_in 2 = .ok (.if_icmp .lt 12, 3) := by decide +kernel
theorem dX7_in_5 : decode cX7_in 5 = .ok (.iload_n 0, 1) := by decide +kernel
theorem dX7_in_6 : decode cX7_in 6 = .ok (.iload_n 2, 1) := by decide +kernel
theorem dX7_in_7 : decode cX7_in 7 = .ok (.if_icmp .gt 7, 3) := by decide +kernel
theorem dX7_in_10 : decode cX7_in 10 = .ok (.iconst 1, 1) := by decide +kernel
theorem dX7_in_11 : decode cX7_in 11 = .ok (.goto 4, 3) := by decide +kernel
theorem dX7_in_14 : decode cX7_in 14 = .ok (.iconst 0, 1) := by decide +kernel
theorem dX7_in_15 : decode cX7_in 15 = .ok (.ireturn, 1) := by decide +kernel
theorem dX7_handle_0 : decode cX7_handle 0 = .ok (.aload_n 0, 1) := by decide +kernel
theorem dX7_handle_1 : decode cX7_handle 1 = .ok (.iconst 0, 1) := by decide +kernel
theorem dX7_handle_2 : decode cX7_handle 2 = .ok (.putfield 91, 3) := by decide +kernel
theorem dX7_handle_5 : decode cX7_handle 5 = .ok (.iload_n 1, 1) := by decide +kernel
theorem dX7_handle_6 : decode cX7_handle 6 = .ok (.iconst 0, 1) := by decide +kernel
theorem dX7_handle_7 : decode cX7_handle 7 = .ok (.iconst 1, 1) := by decide +kernel
theorem dX7_handle_8 : decode cX7_handle 8 = .ok (.invokestatic 94, 3) := by decide +kernel
theorem dX7_handle_11 : decode cX7_handle 11 = .ok (.ifCond .ne 6, 3) := by decide +kernel
theorem dX7_handle_14 : decode cX7_handle 14 = .ok (.bipush (-2), 2) := by decide +kernel
theorem dX7_handle_16 : decode cX7_handle 16 = .ok (.ireturn, 1) := by decide +kernel
theorem dX7_handle_17 : decode cX7_handle 17 = .ok (.aload_n 0, 1) := by decide +kernel
theorem dX7_handle_18 : decode cX7_handle 18 = .ok (.getfield 7, 3) := by decide +kernel
theorem dX7_handle_21 : decode cX7_handle 21 = .ok (.istore_n 2, 1) := by decide +kernel
theorem dX7_handle_22 : decode cX7_handle 22 = .ok (.aload_n 0, 1) := by decide +kernel
theorem dX7_handle_23 : decode cX7_handle 23 = .ok (.iload_n 1, 1) := by decide +kernel
theorem dX7_handle_24 : decode cX7_handle 24 = .ok (.putfield 7, 3) := by decide +kernel
theorem dX7_handle_27 : decode cX7_handle 27 = .ok (.aload_n 0, 1) := by decide +kernel
theorem dX7_handle_28 : decode cX7_handle 28 = .ok (.iload_n 2, 1) := by decide +kernel
theorem dX7_handle_29 : decode cX7_handle 29 = .ok (.iload_n 1, 1) := by decide +kernel
theorem dX7_handle_30 : decode cX7_handle 30 = .ok (.if_icmp .eq 9, 3) := by decide +kernel
theorem dX7_handle_33 : decode cX7_handle 33 = .ok (.sipush 200, 3) := by decide +kernel
theorem dX7_handle_36 : decode cX7_handle 36 = .ok (.goto 7, 3) := by decide +kernel
theorem dX7_handle_39 : decode cX7_handle 39 = .ok (.aload_n 0, 1) := by decide +kernel
theorem dX7_handle_40 : decode cX7_handle 40 = .ok (.getfield 98, 3) := by decide +kernel
theorem dX7_handle_43 : decode cX7_handle 43 = .ok (.putfield 98, 3) := by decide +kernel
theorem dX7_handle_46 : decode cX7_handle 46 = .ok (.iload_n 2, 1) := by decide +kernel
theorem dX7_handle_47 : decode cX7_handle 47 = .ok (.ireturn, 1) := by decide +kernel
theorem dX7_ground_0 : decode cX7_ground 0 = .ok (.aload_n 0, 1) := by decide +kernel
theorem dX7_ground_1 : decode cX7_ground 1 = .ok (.iconst 0, 1) := by decide +kernel
theorem dX7_ground_2 : decode cX7_ground 2 = .ok (.putfield 91, 3) := by decide +kernel
theorem dX7_ground_5 : decode cX7_ground 5 = .ok (.iload_n 1, 1) := by decide +kernel
theorem dX7_ground_6 : decode cX7_ground 6 = .ok (.iconst 0, 1) := by decide +kernel
theorem dX7_ground_7 : decode cX7_ground 7 = .ok (.bipush 7, 2) := by decide +kernel
theorem dX7_ground_9 : decode cX7_ground 9 = .ok (.invokestatic 94, 3) := by decide +kernel
theorem dX7_ground_12 : decode cX7_ground 12 = .ok (.ifCond .ne 6, 3) := by decide +kernel
theorem dX7_ground_15 : decode cX7_ground 15 = .ok (.bipush (-2), 2) := by decide +kernel
theorem dX7_ground_17 : decode cX7_ground 17 = .ok (.ireturn, 1) := by decide +kernel
theorem dX7_ground_18 : decode cX7_ground 18 = .ok (.aload_n 0, 1) := by decide +kernel
theorem dX7_ground_19 : decode cX7_ground 19 = .ok (.getfield 13, 3) := by decide +kernel
theorem dX7_ground_22 : decode cX7_ground 22 = .ok (.istore_n 2, 1) := by decide +kernel
theorem dX7_ground_23 : decode cX7_ground 23 = .ok (.aload_n 0, 1) := by decide +kernel
theorem dX7_ground_24 : decode cX7_ground 24 = .ok (.iload_n 1, 1) := by decide +kernel
theorem dX7_ground_25 : decode cX7_ground 25 = .ok (.putfield 13, 3) := by decide +kernel
theorem dX7_ground_28 : decode cX7_ground 28 = .ok (.iload_n 2, 1) := by decide +kernel
theorem dX7_ground_29 : decode cX7_ground 29 = .ok (.ireturn, 1) := by decide +kernel
theorem dX7_channel_0 : decode cX7_channel 0 = .ok (.aload_n 0, 1) := by decide +kernel
theorem dX7_channel_1 : decode cX7_channel 1 = .ok (.iconst 0, 1) := by decide +kernel
theorem dX7_channel_2 : decode cX7_channel 2 = .ok (.putfield 91, 3) := by decide +kernel
theorem dX7_channel_5 : decode cX7_channel 5 = .ok (.iload_n 1, 1) := by decide +kernel
theorem dX7_channel_6 : decode cX7_channel 6 = .ok (.iconst 0, 1) := by decide +kernel
theorem dX7_channel_7 : decode cX7_channel 7 = .ok (.bipush 17, 2) := by decide +kernel
theorem dX7_channel_9 : decode cX7_channel 9 = .ok (.invokestatic 94, 3) := by decide +kernel
theorem dX7_channel_12 : decode cX7_channel 12 = .ok (.ifCond .eq 21, 3) := by decide +kernel
theorem dX7_channel_15 : decode cX7_channel 15 = .ok (.iload_n 2, 1) := by decide +kernel
theorem dX7_channel_16 : decode cX7_channel 16 = .ok (.iconst 0, 1) := by decide +kernel
theorem dX7_channel_17 : decode cX7_channel 17 = .ok (.iconst 2, 1) := by decide +kernel
theorem dX7_channel_18 : decode cX7_channel 18 = .ok (.invokestatic 94, 3) := by decide +kernel
theorem dX7_channel_21 : decode cX7_channel 21 = .ok (.ifCond .eq 12, 3) := by decide +kernel
theorem dX7_channel_24 : decode cX7_channel 24 = .ok (.iload_n 3, 1) := by decide +kernel
theorem dX7_channel_25 : decode cX7_channel 25 = .ok (.iconst 0, 1) := by decide +kernel
theorem dX7_channel_26 : decode cX7_channel 26 = .ok (.iconst 3, 1) := by decide +kernel
theorem dX7_channel_27 : decode cX7_channel 27 = .ok (.invokestatic 94, 3) := by decide +kernel
theorem dX7_channel_30 : decode cX7_channel 30 = .ok (.ifCond .ne 6, 3) := by decide +kernel
theorem dX7_channel_33 : decode cX7_channel 33 = .ok (.bipush (-2), 2) := by decide +kernel
theorem dX7_channel_35 : decode cX7_channel 35 = .ok (.ireturn, 1) := by decide +kernel
theorem dX7_channel_36 : decode cX7_channel 36 = .ok (.aload_n 0, 1) := by decide +kernel
theorem dX7_channel_37 : decode cX7_channel 37 = .ok (.getfield 35, 3) := by decide +kernel
theorem dX7_channel_40 : decode cX7_channel 40 = .ok (.iconst 3, 1) := by decide +kernel
theorem dX7_channel_41 : decode cX7_channel 41 = .ok (.iload_n 1, 1) := by decide +kernel
theorem dX7_channel_42 : decode cX7_channel 42 = .ok (.imul, 1) := by decide +kernel
theorem dX7_channel_43 : decode cX7_channel 43 = .ok (.iload_n 2, 1) := by decide +kernel
theorem dX7_channel_44 : decode cX7_channel 44 = .ok (.iadd, 1) := by decide +kernel
theorem dX7_channel_45 : decode cX7_channel 45 = .ok (.iaload, 1) := by decide +kernel
theorem dX7_channel_46 : decode cX7_channel 46 = .ok (.istore 4, 2) := by decide +kernel
theorem dX7_channel_48 : decode cX7_channel 48 = .ok (.aload_n 0, 1) := by decide +kernel
theorem dX7_channel_49 : decode cX7_channel 49 = .ok (.getfield 35, 3) := by decide +kernel
theorem dX7_channel_52 : decode cX7_channel 52 = .ok (.iconst 3, 1) := by decide +kernel
theorem dX7_channel_53 : decode cX7_channel 53 = .ok (.iload_n 1, 1) := by decide +kernel
theorem dX7_channel_54 : decode cX7_channel 54 = .ok (.imul, 1) := by decide +kernel
theorem dX7_channel_55 : decode cX7_channel 55 = .ok (.iload_n 2, 1) := by decide +kernel
theorem dX7_channel_56 : decode cX7_channel 56 = .ok (.iadd, 1) := by decide +kernel
theorem dX7_channel_57 : decode cX7_channel 57 = .ok (.iload_n 3, 1) := by decide +kernel
theorem dX7_channel_58 : decode cX7_channel 58 = .ok (.iastore, 1) := by decide +kernel
theorem dX7_channel_59 : decode cX7_channel 59 = .ok (.iload 4, 2) := by decide +kernel
theorem dX7_channel_61 : decode cX7_channel 61 = .ok (.ireturn, 1) := by decide +kernel
theorem dX7_cylinder_0 : decode cX7_cylinder 0 = .ok (.aload_n 0, 1) := by decide +kernel
theorem dX7_cylinder_1 : decode cX7_cylinder 1 = .ok (.iconst 0, 1) := by decide +kernel
theorem dX7_cylinder_2 : decode cX7_cylinder 2 = .ok (.putfield 91, 3) := by decide +kernel
theorem dX7_cylinder_5 : decode cX7_cylinder 5 = .ok (.iload_n 1, 1) := by decide +kernel
theorem dX7_cylinder_6 : decode cX7_cylinder 6 = .ok (.iconst 0, 1) := by decide +kernel
theorem dX7_cylinder_7 : decode cX7_cylinder 7 = .ok (.iconst 5, 1) := by decide +kernel
theorem dX7_cylinder_8 : decode cX7_cylinder 8 = .ok (.invokestatic 94, 3) := by decide +kernel
theorem dX7_cylinder_11 : decode cX7_cylinder 11 = .ok (.ifCond .eq 12, 3) := by decide +kernel
theorem dX7_cylinder_14 : decode cX7_cylinder 14 = .ok (.iload_n 2, 1) := by decide +kernel
theorem dX7_cylinder_15 : decode cX7_cylinder 15 = .ok (.iconst 0, 1) := by decide +kernel
theorem dX7_cylinder_16 : decode cX7_cylinder 16 = .ok (.iconst 1, 1) := by decide +kernel
theorem dX7_cylinder_17 : decode cX7_cylinder 17 = .ok (.invokestatic 94, 3) := by decide +kernel
theorem dX7_cylinder_20 : decode cX7_cylinder 20 = .ok (.ifCond .ne 6, 3) := by decide +kernel
theorem dX7_cylinder_23 : decode cX7_cylinder 23 = .ok (.bipush (-2), 2) := by decide +kernel
theorem dX7_cylinder_25 : decode cX7_cylinder 25 = .ok (.ireturn, 1) := by decide +kernel
theorem dX7_cylinder_26 : decode cX7_cylinder 26 = .ok (.aload_n 0, 1) := by decide +kernel
theorem dX7_cylinder_27 : decode cX7_cylinder 27 = .ok (.getfield 32, 3) := by decide +kernel
theorem dX7_cylinder_30 : decode cX7_cylinder 30 = .ok (.iload_n 1, 1) := by decide +kernel
theorem dX7_cylinder_31 : decode cX7_cylinder 31 = .ok (.iaload, 1) := by decide +kernel
theorem dX7_cylinder_32 : decode cX7_cylinder 32 = .ok (.istore_n 3, 1) := by decide +kernel
theorem dX7_cylinder_33 : decode cX7_cylinder 33 = .ok (.aload_n 0, 1) := by decide +kernel
theorem dX7_cylinder_34 : decode cX7_cylinder 34 = .ok (.getfield 32, 3) := by decide +kernel
theorem dX7_cylinder_37 : decode cX7_cylinder 37 = .ok (.iload_n 1, 1) := by decide +kernel
theorem dX7_cylinder_38 : decode cX7_cylinder 38 = .ok (.iload_n 2, 1) := by decide +kernel
theorem dX7_cylinder_39 : decode cX7_cylinder 39 = .ok (.iastore, 1) := by decide +kernel
theorem dX7_cylinder_40 : decode cX7_cylinder 40 = .ok (.iload_n 3, 1) := by decide +kernel
theorem dX7_cylinder_41 : decode cX7_cylinder 41 = .ok (.ireturn, 1) := by decide +kernel
theorem dX7_valve_0 : decode cX7_valve 0 = .ok (.aload_n 0, 1) := by decide +kernel
theorem dX7_valve_1 : decode cX7_valve 1 = .ok (.iconst 0, 1) := by decide +kernel
theorem dX7_valve_2 : decode cX7_valve 2 = .ok (.putfield 91, 3) := by decide +kernel
theorem dX7_valve_5 : decode cX7_valve 5 = .ok (.iload_n 1, 1) := by decide +kernel
theorem dX7_valve_6 : decode cX7_valve 6 = .ok (.iconst 0, 1) := by decide +kernel
theorem dX7_valve_7 : decode cX7_valve 7 = .ok (.iconst 4, 1) := by decide +kernel
theorem dX7_valve_8 : decode cX7_valve 8 = .ok (.invokestatic 94, 3) := by decide +kernel
theorem dX7_valve_11 : decode cX7_valve 11 = .ok (.ifCond .eq 12, 3) := by decide +kernel
theorem dX7_valve_14 : decode cX7_valve 14 = .ok (.iload_n 2, 1) := by decide +kernel
theorem dX7_valve_15 : decode cX7_valve 15 = .ok (.iconst 0, 1) := by decide +kernel
theorem dX7_valve_16 : decode cX7_valve 16 = .ok (.iconst 2, 1) := by decide +kernel
theorem dX7_valve_17 : decode cX7_valve 17 = .ok (.invokestatic 94, 3) := by decide +kernel
theorem dX7_valve_20 : decode cX7_valve 20 = .ok (.ifCond .ne 6, 3) := by decide +kernel
theorem dX7_valve_23 : decode cX7_valve 23 = .ok (.bipush (-2), 2) := by decide +kernel
theorem dX7_valve_25 : decode cX7_valve 25 = .ok (.ireturn, 1) := by decide +kernel
theorem dX7_valve_26 : decode cX7_valve 26 = .ok (.aload_n 0, 1) := by decide +kernel
theorem dX7_valve_27 : decode cX7_valve 27 = .ok (.getfield 23, 3) := by decide +kernel
theorem dX7_valve_30 : decode cX7_valve 30 = .ok (.iload_n 1, 1) := by decide +kernel
theorem dX7_valve_31 : decode cX7_valve 31 = .ok (.iaload, 1) := by decide +kernel
theorem dX7_valve_32 : decode cX7_valve 32 = .ok (.istore_n 3, 1) := by decide +kernel
theorem dX7_valve_33 : decode cX7_valve 33 = .ok (.aload_n 0, 1) := by decide +kernel
theorem dX7_valve_34 : decode cX7_valve 34 = .ok (.getfield 23, 3) := by decide +kernel
theorem dX7_valve_37 : decode cX7_valve 37 = .ok (.iload_n 1, 1) := by decide +kernel
theorem dX7_valve_38 : decode cX7_valve 38 = .ok (.iload_n 2, 1) := by decide +kernel
theorem dX7_valve_39 : decode cX7_valve 39 = .ok (.iastore, 1) := by decide +kernel
theorem dX7_valve_40 : decode cX7_valve 40 = .ok (.iload_n 3, 1) := by decide +kernel
theorem dX7_valve_41 : decode cX7_valve 41 = .ok (.ireturn, 1) := by decide +kernel
theorem dX7_stick_0 : decode cX7_stick 0 = .ok (.aload_n 0, 1) := by decide +kernel
theorem dX7_stick_1 : decode cX7_stick 1 = .ok (.iconst 0, 1) := by decide +kernel
theorem dX7_stick_2 : decode cX7_stick 2 = .ok (.putfield 91, 3) := by decide +kernel
theorem dX7_stick_5 : decode cX7_stick 5 = .ok (.iload_n 1, 1) := by decide +kernel
theorem dX7_stick_6 : decode cX7_stick 6 = .ok (.iconst 0, 1) := by decide +kernel
theorem dX7_stick_7 : decode cX7_stick 7 = .ok (.iconst 1, 1) := by decide +kernel
theorem dX7_stick_8 : decode cX7_stick 8 = .ok (.invokestatic 94, 3) := by decide +kernel
theorem dX7_stick_11 : decode cX7_stick 11 = .ok (.ifCond .ne 6, 3) := by decide +kernel
theorem dX7_stick_14 : decode cX7_stick 14 = .ok (.bipush (-2), 2) := by decide +kernel
theorem dX7_stick_16 : decode cX7_stick 16 = .ok (.ireturn, 1) := by decide +kernel
theorem dX7_stick_17 : decode cX7_stick 17 = .ok (.aload_n 0, 1) := by decide +kernel
theorem dX7_stick_18 : decode cX7_stick 18 = .ok (.getfield 101, 3) := by decide +kernel
theorem dX7_stick_21 : decode cX7_stick 21 = .ok (.istore_n 2, 1) := by decide +kernel
theorem dX7_stick_22 : decode cX7_stick 22 = .ok (.aload_n 0, 1) := by decide +kernel
theorem dX7_stick_23 : decode cX7_stick 23 = .ok (.iload_n 1, 1) := by decide +kernel
theorem dX7_stick_24 : decode cX7_stick 24 = .ok (.putfield 101, 3) := by decide +kernel
theorem dX7_stick_27 : decode cX7_stick 27 = .ok (.iload_n 2, 1) := by decide +kernel
theorem dX7_stick_28 : decode cX7_stick 28 = .ok (.ireturn, 1) := by decide +kernel
theorem dX7_module_0 : decode cX7_module 0 = .ok (.aload_n 0, 1) := by decide +kernel
theorem dX7_module_1 : decode cX7_module 1 = .ok (.iconst 0, 1) := by decide +kernel
theorem dX7_module_2 : decode cX7_module 2 = .ok (.putfield 91, 3) := by decide +kernel
theorem dX7_module_5 : decode cX7_module 5 = .ok (.iload_n 1, 1) := by decide +kernel
theorem dX7_module_6 : decode cX7_module 6 = .ok (.iconst 0, 1) := by decide +kernel
theorem dX7_module_7 : decode cX7_module 7 = .ok (.iconst 1, 1) := by decide +kernel
theorem dX7_module_8 : decode cX7_module 8 = .ok (.invokestatic 94, 3) := by decide +kernel
theorem dX7_module_11 : decode cX7_module 11 = .ok (.ifCond .eq 12, 3) := by decide +kernel
theorem dX7_module_14 : decode cX7_module 14 = .ok (.iload_n 2, 1) := by decide +kernel
theorem dX7_module_15 : decode cX7_module 15 = .ok (.iconst 0, 1) := by decide +kernel
theorem dX7_module_16 : decode cX7_module 16 = .ok (.iconst 1, 1) := by decide +kernel
theorem dX7_module_17 : decode cX7_module 17 = .ok (.invokestatic 94, 3) := by decide +kernel
theorem dX7_module_20 : decode cX7_module 20 = .ok (.ifCond .ne 6, 3) := by decide +kernel
theorem dX7_module_23 : decode cX7_module 23 = .ok (.bipush (-2), 2) := by decide +kernel
theorem dX7_module_25 : decode cX7_module 25 = .ok (.ireturn, 1) := by decide +kernel
theorem dX7_module_26 : decode cX7_module 26 = .ok (.aload_n 0, 1) := by decide +kernel
theorem dX7_module_27 : decode cX7_module 27 = .ok (.getfield 54, 3) := by decide +kernel
theorem dX7_module_30 : decode cX7_module 30 = .ok (.iload_n 1, 1) := by decide +kernel
theorem dX7_module_31 : decode cX7_module 31 = .ok (.iaload, 1) := by decide +kernel
theorem dX7_module_32 : decode cX7_module 32 = .ok (.istore_n 3, 1) := by decide +kernel
theorem dX7_module_33 : decode cX7_module 33 = .ok (.aload_n 0, 1) := by decide +kernel
theorem dX7_module_34 : decode cX7_module 34 = .ok (.getfield 54, 3) := by decide +kernel
theorem dX7_module_37 : decode cX7_module 37 = .ok (.iload_n 1, 1) := by decide +kernel
theorem dX7_module_38 : decode cX7_module 38 = .ok (.iload_n 2, 1) := by decide +kernel
theorem dX7_module_39 : decode cX7_module 39 = .ok (.iastore, 1) := by decide +kernel
theorem dX7_module_40 : decode cX7_module 40 = .ok (.iload_n 3, 1) := by decide +kernel
theorem dX7_module_41 : decode cX7_module 41 = .ok (.ireturn, 1) := by decide +kernel
theorem dX7_sensor_0 : decode cX7_sensor 0 = .ok (.iload_n 1, 1) := by decide +kernel
theorem dX7_sensor_1 : decode cX7_sensor 1 = .ok (.iconst 3, 1) := by decide +kernel
theorem dX7_sensor_2 : decode cX7_sensor 2 = .ok (.if_icmp .ge 66, 3) := by decide +kernel
theorem dX7_sensor_5 : decode cX7_sensor 5 = .ok (.iload_n 1, 1) := by decide +kernel
theorem dX7_sensor_6 : decode cX7_sensor 6 = .ok (.ifCond .ne 19, 3) := by decide +kernel
theorem dX7_sensor_9 : decode cX7_sensor 9 = .ok (.aload_n 0, 1) := by decide +kernel
theorem dX7_sensor_10 : decode cX7_sensor 10 = .ok (.getfield 7, 3) := by decide +kernel
theorem dX7_sensor_13 : decode cX7_sensor 13 = .ok (.iconst 1, 1) := by decide +kernel
theorem dX7_sensor_14 : decode cX7_sensor 14 = .ok (.if_icmp .ne 7, 3) := by decide +kernel
theorem dX7_sensor_17 : decode cX7_sensor 17 = .ok (.iconst 1, 1) := by decide +kernel
theorem dX7_sensor_18 : decode cX7_sensor 18 = .ok (.goto 46, 3) := by decide +kernel
theorem dX7_sensor_21 : decode cX7_sensor 21 = .ok (.iconst 0, 1) := by decide +kernel
theorem dX7_sensor_22 : decode cX7_sensor 22 = .ok (.goto 42, 3) := by decide +kernel
theorem dX7_sensor_25 : decode cX7_sensor 25 = .ok (.iload_n 1, 1) := by decide +kernel
theorem dX7_sensor_26 : decode cX7_sensor 26 = .ok (.iconst 1, 1) := by decide +kernel
theorem dX7_sensor_27 : decode cX7_sensor 27 = .ok (.if_icmp .ne 20, 3) := by decide +kernel
theorem dX7_sensor_30 : decode cX7_sensor 30 = .ok (.aload_n 0, 1) := by decide +kernel
theorem dX7_sensor_31 : decode cX7_sensor 31 = .ok (.getfield 104, 3) := by decide +kernel
theorem dX7_sensor_34 : decode cX7_sensor 34 = .ok (.bipush 24, 2) := by decide +kernel
theorem dX7_sensor_36 : decode cX7_sensor 36 = .ok (.if_icmp .ne 7, 3) := by decide +kernel
theorem dX7_sensor_39 : decode cX7_sensor 39 = .ok (.iconst 1, 1) := by decide +kernel
theorem dX7_sensor_40 : decode cX7_sensor 40 = .ok (.goto 24, 3) := by decide +kernel
theorem dX7_sensor_43 : decode cX7_sensor 43 = .ok (.iconst 0, 1) := by decide +kernel
theorem dX7_sensor_44 : decode cX7_sensor 44 = .ok (.goto 20, 3) := by decide +kernel
theorem dX7_sensor_47 : decode cX7_sensor 47 = .ok (.aload_n 0, 1) := by decide +kernel
theorem dX7_sensor_48 : decode cX7_sensor 48 = .ok (.getfield 19, 3) := by decide +kernel
theorem dX7_sensor_51 : decode cX7_sensor 51 = .ok (.iconst 0, 1) := by decide +kernel
theorem dX7_sensor_52 : decode cX7_sensor 52 = .ok (.iaload, 1) := by decide +kernel
theorem dX7_sensor_53 : decode cX7_sensor 53 = .ok (.sipush 360, 3) := by decide +kernel
theorem dX7_sensor_56 : decode cX7_sensor 56 = .ok (.if_icmp .ne 7, 3) := by decide +kernel
theorem dX7_sensor_59 : decode cX7_sensor 59 = .ok (.iconst 1, 1) := by decide +kernel
theorem dX7_sensor_60 : decode cX7_sensor 60 = .ok (.goto 4, 3) := by decide +kernel
theorem dX7_sensor_63 : decode cX7_sensor 63 = .ok (.iconst 0, 1) := by decide +kernel
theorem dX7_sensor_64 : decode cX7_sensor 64 = .ok (.istore_n 2, 1) := by decide +kernel
theorem dX7_sensor_65 : decode cX7_sensor 65 = .ok (.goto 149, 3) := by decide +kernel
theorem dX7_sensor_68 : decode cX7_sensor 68 = .ok (.iload_n 1, 1) := by decide +kernel
theorem dX7_sensor_69 : decode cX7_sensor 69 = .ok (.bipush 6, 2) := by decide +kernel
theorem dX7_sensor_71 : decode cX7_sensor 71 = .ok (.if_icmp .ge 23, 3) := by decide +kernel
theorem dX7_sensor_74 : decode cX7_sensor 74 = .ok (.aload_n 0, 1) := by decide +kernel
theorem dX7_sensor_75 : decode cX7_sensor 75 = .ok (.getfield 29, 3) := by decide +kernel
theorem dX7_sensor_78 : decode cX7_sensor 78 = .ok (.iload_n 1, 1) := by decide +kernel
theorem dX7_sensor_79 : decode cX7_sensor 79 = .ok (.iconst 3, 1) := by decide +kernel
theorem dX7_sensor_80 : decode cX7_sensor 80 = .ok (.isub, 1) := by decide +kernel
theorem dX7_sensor_81 : decode cX7_sensor 81 = .ok (.iaload, 1) := by decide +kernel
theorem dX7_sensor_82 : decode cX7_sensor 82 = .ok (.ifCond .ne 7, 3) := by decide +kernel
theorem dX7_sensor_85 : decode cX7_sensor 85 = .ok (.iconst 1, 1) := by decide +kernel
theorem dX7_sensor_86 : decode cX7_sensor 86 = .ok (.goto 4, 3) := by decide +kernel
theorem dX7_sensor_89 : decode cX7_sensor 89 = .ok (.iconst 0, 1) := by decide +kernel
theorem dX7_sensor_90 : decode cX7_sensor 90 = .ok (.istore_n 2, 1) := by decide +kernel
theorem dX7_sensor_91 : decode cX7_sensor 91 = .ok (.goto 123, 3) := by decide +kernel
theorem dX7_sensor_94 : decode cX7_sensor 94 = .ok (.iload_n 1, 1) := by decide +kernel
theorem dX7_sensor_95 : decode cX7_sensor 95 = .ok (.bipush 9, 2) := by decide +kernel
theorem dX7_sensor_97 : decode cX7_sensor 97 = .ok (.if_icmp .ge 33, 3) := by decide +kernel
theorem dX7_sensor_100 : decode cX7_sensor 100 = .ok (.aload_n 0, 1) := by decide +kernel
theorem dX7_sensor_101 : decode cX7_sensor 101 = .ok (.getfield 29, 3) := by decide +kernel
theorem dX7_sensor_104 : decode cX7_sensor 104 = .ok (.iload_n 1, 1) := by decide +kernel
theorem dX7_sensor_105 : decode cX7_sensor 105 = .ok (.bipush 6, 2) := by decide +kernel
theorem dX7_sensor_107 : decode cX7_sensor 107 = .ok (.isub, 1) := by decide +kernel
theorem dX7_sensor_108 : decode cX7_sensor 108 = .ok (.iaload, 1) := by decide +kernel
theorem dX7_sensor_109 : decode cX7_sensor 109 = .ok (.aload_n 0, 1) := by decide +kernel
theorem dX7_sensor_110 : decode cX7_sensor 110 = .ok (.getfield 26, 3) := by decide +kernel
theorem dX7_sensor_113 : decode cX7_sensor 113 = .ok (.iload_n 1, 1) := by decide +kernel
theorem dX7_sensor_114 : decode cX7_sensor 114 = .ok (.bipush 6, 2) := by decide +kernel
theorem dX7_sensor_116 : decode cX7_sensor 116 = .ok (.isub, 1) := by decide +kernel
theorem dX7_sensor_117 : decode cX7_sensor 117 = .ok (.iaload, 1) := by decide +kernel
theorem dX7_sensor_118 : decode cX7_sensor 118 = .ok (.if_icmp .ne 7, 3) := by decide +kernel
theorem dX7_sensor_121 : decode cX7_sensor 121 = .ok (.iconst 1, 1) := by decide +kernel
theorem dX7_sensor_122 : decode cX7_sensor 122 = .ok (.goto 4, 3) := by decide +kernel
theorem dX7_sensor_125 : decode cX7_sensor 125 = .ok (.iconst 0, 1) := by decide +kernel
theorem dX7_sensor_126 : decode cX7_sensor 126 = .ok (.istore_n 2, 1) := by decide +kernel
theorem dX7_sensor_127 : decode cX7_sensor 127 = .ok (.goto 87, 3) := by decide +kernel
theorem dX7_sensor_130 : decode cX7_sensor 130 = .ok (.iload_n 1, 1) := by decide +kernel
theorem dX7_sensor_131 : decode cX7_sensor 131 = .ok (.bipush 12, 2) := by decide +kernel
theorem dX7_sensor_133 : decode cX7_sensor 133 = .ok (.if_icmp .ge 33, 3) := by decide +kernel
theorem dX7_sensor_136 : decode cX7_sensor 136 = .ok (.aload_n 0, 1) := by decide +kernel
theorem dX7_sensor_137 : decode cX7_sensor 137 = .ok (.getfield 29, 3) := by decide +kernel
theorem dX7_sensor_140 : decode cX7_sensor 140 = .ok (.iload_n 1, 1) := by decide +kernel
theorem dX7_sensor_141 : decode cX7_sensor 141 = .ok (.bipush 6, 2) := by decide +kernel
theorem dX7_sensor_143 : decode cX7_sensor 143 = .ok (.isub, 1) := by decide +kernel
theorem dX7_sensor_144 : decode cX7_sensor 144 = .ok (.iaload, 1) := by decide +kernel
theorem dX7_sensor_145 : decode cX7_sensor 145 = .ok (.aload_n 0, 1) := by decide +kernel
theorem dX7_sensor_146 : decode cX7_sensor 146 = .ok (.getfield 26, 3) := by decide +kernel
theorem dX7_sensor_149 : decode cX7_sensor 149 = .ok (.iload_n 1, 1) := by decide +kernel
theorem dX7_sensor_150 : decode cX7_sensor 150 = .ok (.bipush 6, 2) := by decide +kernel
theorem dX7_sensor_152 : decode cX7_sensor 152 = .ok (.isub, 1) := by decide +kernel
theorem dX7_sensor_153 : decode cX7_sensor 153 = .ok (.iaload, 1) := by decide +kernel
theorem dX7_sensor_154 : decode cX7_sensor 154 = .ok (.if_icmp .ne 7, 3) := by decide +kernel
theorem dX7_sensor_157 : decode cX7_sensor 157 = .ok (.iconst 1, 1) := by decide +kernel
theorem dX7_sensor_158 : decode cX7_sensor 158 = .ok (.goto 4, 3) := by decide +kernel
theorem dX7_sensor_161 : decode cX7_sensor 161 = .ok (.iconst 0, 1) := by decide +kernel
theorem dX7_sensor_162 : decode cX7_sensor 162 = .ok (.istore_n 2, 1) := by decide +kernel
theorem dX7_sensor_163 : decode cX7_sensor 163 = .ok (.goto 51, 3) := by decide +kernel
theorem dX7_sensor_166 : decode cX7_sensor 166 = .ok (.iload_n 1, 1) := by decide +kernel
theorem dX7_sensor_167 : decode cX7_sensor 167 = .ok (.bipush 15, 2) := by decide +kernel
theorem dX7_sensor_169 : decode cX7_sensor 169 = .ok (.if_icmp .ge 24, 3) := by decide +kernel
theorem dX7_sensor_172 : decode cX7_sensor 172 = .ok (.aload_n 0, 1) := by decide +kernel
theorem dX7_sensor_173 : decode cX7_sensor 173 = .ok (.getfield 29, 3) := by decide +kernel
theorem dX7_sensor_176 : decode cX7_sensor 176 = .ok (.iload_n 1, 1) := by decide +kernel
theorem dX7_sensor_177 : decode cX7_sensor 177 = .ok (.bipush 9, 2) := by decide +kernel
theorem dX7_sensor_179 : decode cX7_sensor 179 = .ok (.isub, 1) := by decide +kernel
theorem dX7_sensor_180 : decode cX7_sensor 180 = .ok (.iaload, 1) := by decide +kernel
theorem dX7_sensor_181 : decode cX7_sensor 181 = .ok (.ifCond .ne 7, 3) := by decide +kernel
theorem dX7_sensor_184 : decode cX7_sensor 184 = .ok (.iconst 1, 1) := by decide +kernel
theorem dX7_sensor_185 : decode cX7_sensor 185 = .ok (.goto 4, 3) := by decide +kernel
theorem dX7_sensor_188 : decode cX7_sensor 188 = .ok (.iconst 0, 1) := by decide +kernel
theorem dX7_sensor_189 : decode cX7_sensor 189 = .ok (.istore_n 2, 1) := by decide +kernel
theorem dX7_sensor_190 : decode cX7_sensor 190 = .ok (.goto 24, 3) := by decide +kernel
theorem dX7_sensor_193 : decode cX7_sensor 193 = .ok (.aload_n 0, 1) := by decide +kernel
theorem dX7_sensor_194 : decode cX7_sensor 194 = .ok (.getfield 13, 3) := by decide +kernel
theorem dX7_sensor_197 : decode cX7_sensor 197 = .ok (.iload_n 1, 1) := by decide +kernel
theorem dX7_sensor_198 : decode cX7_sensor 198 = .ok (.bipush 15, 2) := by decide +kernel
theorem dX7_sensor_200 : decode cX7_sensor 200 = .ok (.isub, 1) := by decide +kernel
theorem dX7_sensor_201 : decode cX7_sensor 201 = .ok (.ishr, 1) := by decide +kernel
theorem dX7_sensor_202 : decode cX7_sensor 202 = .ok (.iconst 1, 1) := by decide +kernel
theorem dX7_sensor_203 : decode cX7_sensor 203 = .ok (.iand, 1) := by decide +kernel
theorem dX7_sensor_204 : decode cX7_sensor 204 = .ok (.iconst 1, 1) := by decide +kernel
theorem dX7_sensor_205 : decode cX7_sensor 205 = .ok (.if_icmp .ne 7, 3) := by decide +kernel
theorem dX7_sensor_208 : decode cX7_sensor 208 = .ok (.iconst 1, 1) := by decide +kernel
theorem dX7_sensor_209 : decode cX7_sensor 209 = .ok (.goto 4, 3) := by decide +kernel
theorem dX7_sensor_212 : decode cX7_sensor 212 = .ok (.iconst 0, 1) := by decide +kernel
theorem dX7_sensor_213 : decode cX7_sensor 213 = .ok (.istore_n 2, 1) := by decide +kernel
theorem dX7_sensor_214 : decode cX7_sensor 214 = .ok (.iload_n 2, 1) := by decide +kernel
theorem dX7_sensor_215 : decode cX7_sensor 215 = .ok (.ifCond .eq 7, 3) := by decide +kernel
theorem dX7_sensor_218 : decode cX7_sensor 218 = .ok (.iconst 1, 1) := by decide +kernel
theorem dX7_sensor_219 : decode cX7_sensor 219 = .ok (.goto 4, 3) := by decide +kernel
theorem dX7_sensor_222 : decode cX7_sensor 222 = .ok (.iconst 0, 1) := by decide +kernel
theorem dX7_sensor_223 : decode cX7_sensor 223 = .ok (.ireturn, 1) := by decide +kernel
theorem dX7_feel_0 : decode cX7_feel 0 = .ok (.iconst 0, 1) := by decide +kernel
theorem dX7_feel_1 : decode cX7_feel 1 = .ok (.istore_n 1, 1) := by decide +kernel
theorem dX7_feel_2 : decode cX7_feel 2 = .ok (.iload_n 1, 1) := by decide +kernel
theorem dX7_feel_3 : decode cX7_feel 3 = .ok (.bipush 18, 2) := by decide +kernel
theorem dX7_feel_5 : decode cX7_feel 5 = .ok (.if_icmp .ge 20, 3) := by decide +kernel
theorem dX7_feel_8 : decode cX7_feel 8 = .ok (.aload_n 0, 1) := by decide +kernel
theorem dX7_feel_9 : decode cX7_feel 9 = .ok (.getfield 75, 3) := by decide +kernel
theorem dX7_feel_12 : decode cX7_feel 12 = .ok (.iload_n 1, 1) := by decide +kernel
theorem dX7_feel_13 : decode cX7_feel 13 = .ok (.aload_n 0, 1) := by decide +kernel
theorem dX7_feel_14 : decode cX7_feel 14 = .ok (.iload_n 1, 1) := by decide +kernel
theorem dX7_feel_15 : decode cX7_feel 15 = .ok (.invokevirtual 88, 3) := by decide +kernel
theorem dX7_feel_18 : decode cX7_feel 18 = .ok (.iastore, 1) := by decide +kernel
theorem dX7_feel_19 : decode cX7_feel 19 = .ok (.iinc 1 1, 3) := by decide +kernel
theorem dX7_feel_22 : decode cX7_feel 22 = .ok (.goto (-20), 3) := by decide +kernel
theorem dX7_feel_25 : decode cX7_feel 25 = .ok (.return_, 1) := by decide +kernel
theorem dX7_tell_0 : decode cX7_tell 0 = .ok (.aload_n 0, 1) := by decide +kernel
theorem dX7_tell_1 : decode cX7_tell 1 = .ok (.getfield 35, 3) := by decide +kernel
theorem dX7_tell_4 : decode cX7_tell 4 = .ok (.iconst 3, 1) := by decide +kernel
theorem dX7_tell_5 : decode cX7_tell 5 = .ok (.iload_n 1, 1) := by decide +kernel
theorem dX7_tell_6 : decode cX7_tell 6 = .ok (.imul, 1) := by decide +kernel
theorem dX7_tell_7 : decode cX7_tell 7 = .ok (.iload_n 2, 1) := by decide +kernel
theorem dX7_tell_8 : decode cX7_tell 8 = .ok (.iadd, 1) := by decide +kernel
theorem dX7_tell_9 : decode cX7_tell 9 = .ok (.iaload, 1) := by decide +kernel
theorem dX7_tell_10 : decode cX7_tell 10 = .ok (.istore_n 3, 1) := by decide +kernel
theorem dX7_tell_11 : decode cX7_tell 11 = .ok (.iload_n 3, 1) := by decide +kernel
theorem dX7_tell_12 : decode cX7_tell 12 = .ok (.ifCond .ne 12, 3) := by decide +kernel
theorem dX7_tell_15 : decode cX7_tell 15 = .ok (.aload_n 0, 1) := by decide +kernel
theorem dX7_tell_16 : decode cX7_tell 16 = .ok (.getfield 75, 3) := by decide +kernel
theorem dX7_tell_19 : decode cX7_tell 19 = .ok (.iload_n 1, 1) := by decide +kernel
theorem dX7_tell_20 : decode cX7_tell 20 = .ok (.iaload, 1) := by decide +kernel
theorem dX7_tell_21 : decode cX7_tell 21 = .ok (.goto 29, 3) := by decide +kernel
theorem dX7_tell_24 : decode cX7_tell 24 = .ok (.iload_n 3, 1) := by decide +kernel
theorem dX7_tell_25 : decode cX7_tell 25 = .ok (.iconst 1, 1) := by decide +kernel
theorem dX7_tell_26 : decode cX7_tell 26 = .ok (.if_icmp .ne 7, 3) := by decide +kernel
theorem dX7_tell_29 : decode cX7_tell 29 = .ok (.iconst 0, 1) := by decide +kernel
theorem dX7_tell_30 : decode cX7_tell 30 = .ok (.goto 20, 3) := by decide +kernel
theorem dX7_tell_33 : decode cX7_tell 33 = .ok (.iload_n 3, 1) := by decide +kernel
theorem dX7_tell_34 : decode cX7_tell 34 = .ok (.iconst 2, 1) := by decide +kernel
theorem dX7_tell_35 : decode cX7_tell 35 = .ok (.if_icmp .ne 7, 3) := by decide +kernel
theorem dX7_tell_38 : decode cX7_tell 38 = .ok (.iconst 1, 1) := by decide +kernel
theorem dX7_tell_39 : decode cX7_tell 39 = .ok (.goto 11, 3) := by decide +kernel
theorem dX7_tell_42 : decode cX7_tell 42 = .ok (.iconst 1, 1) := by decide +kernel
theorem dX7_tell_43 : decode cX7_tell 43 = .ok (.aload_n 0, 1) := by decide +kernel
theorem dX7_tell_44 : decode cX7_tell 44 = .ok (.getfield 75, 3) := by decide +kernel
theorem dX7_tell_47 : decode cX7_tell 47 = .ok (.iload_n 1, 1) := by decide +kernel
theorem dX7_tell_48 : decode cX7_tell 48 = .ok (.iaload, 1) := by decide +kernel
theorem dX7_tell_49 : decode cX7_tell 49 = .ok (.isub, 1) := by decide +kernel
theorem dX7_tell_50 : decode cX7_tell 50 = .ok (.ireturn, 1) := by decide +kernel
theorem dX7_vote_0 : decode cX7_vote 0 = .ok (.bipush 18, 2) := by decide +kernel
theorem dX7_vote_2 : decode cX7_vote 2 = .ok (.iload_n 1, 1) := by decide +kernel
theorem dX7_vote_3 : decode cX7_vote 3 = .ok (.imul, 1) := by decide +kernel
theorem dX7_vote_4 : decode cX7_vote 4 = .ok (.iload_n 2, 1) := by decide +kernel
theorem dX7_vote_5 : decode cX7_vote 5 = .ok (.iadd, 1) := by decide +kernel
theorem dX7_vote_6 : decode cX7_vote 6 = .ok (.istore_n 3, 1) := by decide +kernel
theorem dX7_vote_7 : decode cX7_vote 7 = .ok (.aload_n 0, 1) := by decide +kernel
theorem dX7_vote_8 : decode cX7_vote 8 = .ok (.getfield 72, 3) := by decide +kernel
theorem dX7_vote_11 : decode cX7_vote 11 = .ok (.iload_n 3, 1) := by decide +kernel
theorem dX7_vote_12 : decode cX7_vote 12 = .ok (.baload, 1) := by decide +kernel
theorem dX7_vote_13 : decode cX7_vote 13 = .ok (.ifCond .eq 4, 3) := by decide +kernel
theorem dX7_vote_16 : decode cX7_vote 16 = .ok (.return_, 1) := by decide +kernel
theorem dX7_vote_17 : decode cX7_vote 17 = .ok (.iconst 0, 1) := by decide +kernel
theorem dX7_vote_18 : decode cX7_vote 18 = .ok (.istore 4, 2) := by decide +kernel
theorem dX7_vote_20 : decode cX7_vote 20 = .ok (.iconst 0, 1) := by decide +kernel
theorem dX7_vote_21 : decode cX7_vote 21 = .ok (.istore 5, 2) := by decide +kernel
theorem dX7_vote_23 : decode cX7_vote 23 = .ok (.iconst 0, 1) := by decide +kernel
theorem dX7_vote_24 : decode cX7_vote 24 = .ok (.istore 6, 2) := by decide +kernel
theorem dX7_vote_26 : decode cX7_vote 26 = .ok (.iload 6, 2) := by decide +kernel
theorem dX7_vote_28 : decode cX7_vote 28 = .ok (.iconst 3, 1) := by decide +kernel
theorem dX7_vote_29 : decode cX7_vote 29 = .ok (.if_icmp .ge 39, 3) := by decide +kernel
theorem dX7_vote_32 : decode cX7_vote 32 = .ok (.aload_n 0, 1) := by decide +kernel
theorem dX7_vote_33 : decode cX7_vote 33 = .ok (.getfield 69, 3) := by decide +kernel
theorem dX7_vote_36 : decode cX7_vote 36 = .ok (.iload_n 3, 1) := by decide +kernel
theorem dX7_vote_37 : decode cX7_vote 37 = .ok (.iaload, 1) := by decide +kernel
theorem dX7_vote_38 : decode cX7_vote 38 = .ok (.iload 6, 2) := by decide +kernel
theorem dX7_vote_40 : decode cX7_vote 40 = .ok (.ishr, 1) := by decide +kernel
theorem dX7_vote_41 : decode cX7_vote 41 = .ok (.iconst 1, 1) := by decide +kernel
theorem dX7_vote_42 : decode cX7_vote 42 = .ok (.iand, 1) := by decide +kernel
theorem dX7_vote_43 : decode cX7_vote 43 = .ok (.iconst 1, 1) := by decide +kernel
theorem dX7_vote_44 : decode cX7_vote 44 = .ok (.if_icmp .ne 18, 3) := by decide +kernel
theorem dX7_vote_47 : decode cX7_vote 47 = .ok (.iinc 5 1, 3) := by decide +kernel
theorem dX7_vote_50 : decode cX7_vote 50 = .ok (.iload 4, 2) := by decide +kernel
theorem dX7_vote_52 : decode cX7_vote 52 = .ok (.aload_n 0, 1) := by decide +kernel
theorem dX7_vote_53 : decode cX7_vote 53 = .ok (.iload_n 2, 1) := by decide +kernel
theorem dX7_vote_54 : decode cX7_vote 54 = .ok (.iload 6, 2) := by decide +kernel
theorem dX7_vote_56 : decode cX7_vote 56 = .ok (.invokevirtual 107, 3) := by decide +kernel
theorem dX7_vote_59 : decode cX7_vote 59 = .ok (.iadd, 1) := by decide +kernel
theorem dX7_vote_60 : decode cX7_vote 60 = .ok (.istore 4, 2) := by decide +kernel
theorem dX7_vote_62 : decode cX7_vote 62 = .ok (.iinc 6 1, 3) := by decide +kernel
theorem dX7_vote_65 : decode cX7_vote 65 = .ok (.goto (-39), 3) := by decide +kernel
theorem dX7_vote_68 : decode cX7_vote 68 = .ok (.iload 5, 2) := by decide +kernel
theorem dX7_vote_70 : decode cX7_vote 70 = .ok (.iconst 2, 1) := by decide +kernel
theorem dX7_vote_71 : decode cX7_vote 71 = .ok (.if_icmp .ne 68, 3) := by decide +kernel
theorem dX7_vote_74 : decode cX7_vote 74 = .ok (.aload_n 0, 1) := by decide +kernel
theorem dX7_vote_75 : decode cX7_vote 75 = .ok (.getfield 72, 3) := by decide +kernel
theorem dX7_vote_78 : decode cX7_vote 78 = .ok (.iload_n 3, 1) := by decide +kernel
theorem dX7_vote_79 : decode cX7_vote 79 = .ok (.iload 4, 2) := by decide +kernel
theorem dX7_vote_81 : decode cX7_vote 81 = .ok (.iconst 1, 1) := by decide +kernel
theorem dX7_vote_82 : decode cX7_vote 82 = .ok (.if_icmp .ne 7, 3) := by decide +kernel
theorem dX7_vote_85 : decode cX7_vote 85 = .ok (.iconst 1, 1) := by decide +kernel
theorem dX7_vote_86 : decode cX7_vote 86 = .ok (.goto 4, 3) := by decide +kernel
theorem dX7_vote_89 : decode cX7_vote 89 = .ok (.iconst 0, 1) := by decide +kernel
theorem dX7_vote_90 : decode cX7_vote 90 = .ok (.bastore, 1) := by decide +kernel
theorem dX7_vote_91 : decode cX7_vote 91 = .ok (.aload_n 0, 1) := by decide +kernel
theorem dX7_vote_92 : decode cX7_vote 92 = .ok (.getfield 69, 3) := by decide +kernel
theorem dX7_vote_95 : decode cX7_vote 95 = .ok (.iload_n 3, 1) := by decide +kernel
theorem dX7_vote_96 : decode cX7_vote 96 = .ok (.iload 4, 2) := by decide +kernel
theorem dX7_vote_98 : decode cX7_vote 98 = .ok (.iconst 1, 1) := by decide +kernel
theorem dX7_vote_99 : decode cX7_vote 99 = .ok (.if_icmp .ne 7, 3) := by decide +kernel
theorem dX7_vote_102 : decode cX7_vote 102 = .ok (.iconst 0, 1) := by decide +kernel
theorem dX7_vote_103 : decode cX7_vote 103 = .ok (.goto 9, 3) := by decide +kernel
theorem dX7_vote_106 : decode cX7_vote 106 = .ok (.aload_n 0, 1) := by decide +kernel
theorem dX7_vote_107 : decode cX7_vote 107 = .ok (.getfield 69, 3) := by decide +kernel
theorem dX7_vote_110 : decode cX7_vote 110 = .ok (.iload_n 3, 1) := by decide +kernel
theorem dX7_vote_111 : decode cX7_vote 111 = .ok (.iaload, 1) := by decide +kernel
theorem dX7_vote_112 : decode cX7_vote 112 = .ok (.iastore, 1) := by decide +kernel
theorem dX7_vote_113 : decode cX7_vote 113 = .ok (.aload_n 0, 1) := by decide +kernel
theorem dX7_vote_114 : decode cX7_vote 114 = .ok (.getfield 66, 3) := by decide +kernel
theorem dX7_vote_117 : decode cX7_vote 117 = .ok (.iload_n 3, 1) := by decide +kernel
theorem dX7_vote_118 : decode cX7_vote 118 = .ok (.iload 4, 2) := by decide +kernel
theorem dX7_vote_120 : decode cX7_vote 120 = .ok (.iconst 1, 1) := by decide +kernel
theorem dX7_vote_121 : decode cX7_vote 121 = .ok (.if_icmp .ne 12, 3) := by decide +kernel
theorem dX7_vote_124 : decode cX7_vote 124 = .ok (.aload_n 0, 1) := by decide +kernel
theorem dX7_vote_125 : decode cX7_vote 125 = .ok (.getfield 66, 3) := by decide +kernel
theorem dX7_vote_128 : decode cX7_vote 128 = .ok (.iload_n 3, 1) := by decide +kernel
theorem dX7_vote_129 : decode cX7_vote 129 = .ok (.iaload, 1) := by decide +kernel
theorem dX7_vote_130 : decode cX7_vote 130 = .ok (.goto 7, 3) := by decide +kernel
theorem dX7_vote_133 : decode cX7_vote 133 = .ok (.iload 4, 2) := by decide +kernel
theorem dX7_vote_135 : decode cX7_vote 135 = .ok (.iconst 2, 1) := by decide +kernel
theorem dX7_vote_136 : decode cX7_vote 136 = .ok (.idiv, 1) := by decide +kernel
theorem dX7_vote_137 : decode cX7_vote 137 = .ok (.iastore, 1) := by decide +kernel
theorem dX7_vote_138 : decode cX7_vote 138 = .ok (.return_, 1) := by decide +kernel
theorem dX7_vote_139 : decode cX7_vote 139 = .ok (.aload_n 0, 1) := by decide +kernel
theorem dX7_vote_140 : decode cX7_vote 140 = .ok (.getfield 66, 3) := by decide +kernel
theorem dX7_vote_143 : decode cX7_vote 143 = .ok (.iload_n 3, 1) := by decide +kernel
theorem dX7_vote_144 : decode cX7_vote 144 = .ok (.iload 4, 2) := by decide +kernel
theorem dX7_vote_146 : decode cX7_vote 146 = .ok (.iconst 1, 1) := by decide +kernel
theorem dX7_vote_147 : decode cX7_vote 147 = .ok (.if_icmp .le 7, 3) := by decide +kernel
theorem dX7_vote_150 : decode cX7_vote 150 = .ok (.iconst 1, 1) := by decide +kernel
theorem dX7_vote_151 : decode cX7_vote 151 = .ok (.goto 4, 3) := by decide +kernel
theorem dX7_vote_154 : decode cX7_vote 154 = .ok (.iconst 0, 1) := by decide +kernel
theorem dX7_vote_155 : decode cX7_vote 155 = .ok (.iastore, 1) := by decide +kernel
theorem dX7_vote_156 : decode cX7_vote 156 = .ok (.iconst 0, 1) := by decide +kernel
theorem dX7_vote_157 : decode cX7_vote 157 = .ok (.istore 6, 2) := by decide +kernel
theorem dX7_vote_159 : decode cX7_vote 159 = .ok (.iload 6, 2) := by decide +kernel
theorem dX7_vote_161 : decode cX7_vote 161 = .ok (.iconst 3, 1) := by decide +kernel
theorem dX7_vote_162 : decode cX7_vote 162 = .ok (.if_icmp .ge 55, 3) := by decide +kernel
theorem dX7_vote_165 : decode cX7_vote 165 = .ok (.iload 4, 2) := by decide +kernel
theorem dX7_vote_167 : decode cX7_vote 167 = .ok (.iconst 1, 1) := by decide +kernel
theorem dX7_vote_168 : decode cX7_vote 168 = .ok (.iconst 2, 1) := by decide +kernel
theorem dX7_vote_169 : decode cX7_vote 169 = .ok (.invokestatic 94, 3) := by decide +kernel
theorem dX7_vote_172 : decode cX7_vote 172 = .ok (.ifCond .eq 45, 3) := by decide +kernel
theorem dX7_vote_175 : decode cX7_vote 175 = .ok (.aload_n 0, 1) := by decide +kernel
theorem dX7_vote_176 : decode cX7_vote 176 = .ok (.getfield 69, 3) := by decide +kernel
theorem dX7_vote_179 : decode cX7_vote 179 = .ok (.iload_n 3, 1) := by decide +kernel
theorem dX7_vote_180 : decode cX7_vote 180 = .ok (.dup2, 1) := by decide +kernel
theorem dX7_vote_181 : decode cX7_vote 181 = .ok (.iaload, 1) := by decide +kernel
theorem dX7_vote_182 : decode cX7_vote 182 = .ok (.aload_n 0, 1) := by decide +kernel
theorem dX7_vote_183 : decode cX7_vote 183 = .ok (.iload_n 2, 1) := by decide +kernel
theorem dX7_vote_184 : decode cX7_vote 184 = .ok (.iload 6, 2) := by decide +kernel
theorem dX7_vote_186 : decode cX7_vote 186 = .ok (.invokevirtual 107, 3) := by decide +kernel
theorem dX7_vote_189 : decode cX7_vote 189 = .ok (.aload_n 0, 1) := by decide +kernel
theorem dX7_vote_190 : decode cX7_vote 190 = .ok (.getfield 66, 3) := by decide +kernel
theorem dX7_vote_193 : decode cX7_vote 193 = .ok (.iload_n 3, 1) := by decide +kernel
theorem dX7_vote_194 : decode cX7_vote 194 = .ok (.iaload, 1) := by decide +kernel
theorem dX7_vote_195 : decode cX7_vote 195 = .ok (.if_icmp .ne 8, 3) := by decide +kernel
theorem dX7_vote_198 : decode cX7_vote 198 = .ok (.bipush 7, 2) := by decide +kernel
theorem dX7_vote_200 : decode cX7_vote 200 = .ok (.goto 9, 3) := by decide +kernel
theorem dX7_vote_203 : decode cX7_vote 203 = .ok (.iconst 1, 1) := by decide +kernel
theorem dX7_vote_204 : decode cX7_vote 204 = .ok (.iload 6, 2) := by decide +kernel
theorem dX7_vote_206 : decode cX7_vote 206 = .ok (.ishl, 1) := by decide +kernel
theorem dX7_vote_207 : decode cX7_vote 207 = .ok (.iconst (-1), 1) := by decide +kernel
theorem dX7_vote_208 : decode cX7_vote 208 = .ok (.ixor, 1) := by decide +kernel
theorem dX7_vote_209 : decode cX7_vote 209 = .ok (.iand, 1) := by decide +kernel
theorem dX7_vote_210 : decode cX7_vote 210 = .ok (.iastore, 1) := by decide +kernel
theorem dX7_vote_211 : decode cX7_vote 211 = .ok (.iinc 6 1, 3) := by decide +kernel
theorem dX7_vote_214 : decode cX7_vote 214 = .ok (.goto (-55), 3) := by decide +kernel
theorem dX7_vote_217 : decode cX7_vote 217 = .ok (.return_, 1) := by decide +kernel
theorem dX7_all_0 : decode cX7_all 0 = .ok (.aload_n 0, 1) := by decide +kernel
theorem dX7_all_1 : decode cX7_all 1 = .ok (.getfield 66, 3) := by decide +kernel
theorem dX7_all_4 : decode cX7_all 4 = .ok (.bipush 18, 2) := by decide +kernel
theorem dX7_all_6 : decode cX7_all 6 = .ok (.iload_n 1, 1) := by decide +kernel
theorem dX7_all_7 : decode cX7_all 7 = .ok (.imul, 1) := by decide +kernel
theorem dX7_all_8 : decode cX7_all 8 = .ok (.iload_n 2, 1) := by decide +kernel
theorem dX7_all_9 : decode cX7_all 9 = .ok (.iadd, 1) := by decide +kernel
theorem dX7_all_10 : decode cX7_all 10 = .ok (.iaload, 1) := by decide +kernel
theorem dX7_all_11 : decode cX7_all 11 = .ok (.aload_n 0, 1) := by decide +kernel
theorem dX7_all_12 : decode cX7_all 12 = .ok (.getfield 66, 3) := by decide +kernel
theorem dX7_all_15 : decode cX7_all 15 = .ok (.bipush 18, 2) := by decide +kernel
theorem dX7_all_17 : decode cX7_all 17 = .ok (.iload_n 1, 1) := by decide +kernel
theorem dX7_all_18 : decode cX7_all 18 = .ok (.imul, 1) := by decide +kernel
theorem dX7_all_19 : decode cX7_all 19 = .ok (.iload_n 2, 1) := by decide +kernel
theorem dX7_all_20 : decode cX7_all 20 = .ok (.iadd, 1) := by decide +kernel
theorem dX7_all_21 : decode cX7_all 21 = .ok (.iconst 1, 1) := by decide +kernel
theorem dX7_all_22 : decode cX7_all 22 = .ok (.iadd, 1) := by decide +kernel
theorem dX7_all_23 : decode cX7_all 23 = .ok (.iaload, 1) := by decide +kernel
theorem dX7_all_24 : decode cX7_all 24 = .ok (.iadd, 1) := by decide +kernel
theorem dX7_all_25 : decode cX7_all 25 = .ok (.aload_n 0, 1) := by decide +kernel
theorem dX7_all_26 : decode cX7_all 26 = .ok (.getfield 66, 3) := by decide +kernel
theorem dX7_all_29 : decode cX7_all 29 = .ok (.bipush 18, 2) := by decide +kernel
theorem dX7_all_31 : decode cX7_all 31 = .ok (.iload_n 1, 1) := by decide +kernel
theorem dX7_all_32 : decode cX7_all 32 = .ok (.imul, 1) := by decide +kernel
theorem dX7_all_33 : decode cX7_all 33 = .ok (.iload_n 2, 1) := by decide +kernel
theorem dX7_all_34 : decode cX7_all 34 = .ok (.iadd, 1) := by decide +kernel
theorem dX7_all_35 : decode cX7_all 35 = .ok (.iconst 2, 1) := by decide +kernel
theorem dX7_all_36 : decode cX7_all 36 = .ok (.iadd, 1) := by decide +kernel
theorem dX7_all_37 : decode cX7_all 37 = .ok (.iaload, 1) := by decide +kernel
theorem dX7_all_38 : decode cX7_all 38 = .ok (.iadd, 1) := by decide +kernel
theorem dX7_all_39 : decode cX7_all 39 = .ok (.iconst 3, 1) := by decide +kernel
theorem dX7_all_40 : decode cX7_all 40 = .ok (.if_icmp .ne 7, 3) := by decide +kernel
theorem dX7_all_43 : decode cX7_all 43 = .ok (.iconst 1, 1) := by decide +kernel
theorem dX7_all_44 : decode cX7_all 44 = .ok (.goto 4, 3) := by decide +kernel
theorem dX7_all_47 : decode cX7_all 47 = .ok (.iconst 0, 1) := by decide +kernel
theorem dX7_all_48 : decode cX7_all 48 = .ok (.ireturn, 1) := by decide +kernel
theorem dX7_some_0 : decode cX7_some 0 = .ok (.aload_n 0, 1) := by decide +kernel
theorem dX7_some_1 : decode cX7_some 1 = .ok (.getfield 66, 3) := by decide +kernel
theorem dX7_some_4 : decode cX7_some 4 = .ok (.bipush 18, 2) := by decide +kernel
theorem dX7_some_6 : decode cX7_some 6 = .ok (.iload_n 1, 1) := by decide +kernel
theorem dX7_some_7 : decode cX7_some 7 = .ok (.imul, 1) := by decide +kernel
theorem dX7_some_8 : decode cX7_some 8 = .ok (.iload_n 2, 1) := by decide +kernel
theorem dX7_some_9 : decode cX7_some 9 = .ok (.iadd, 1) := by decide +kernel
theorem dX7_some_10 : decode cX7_some 10 = .ok (.iaload, 1) := by decide +kernel
theorem dX7_some_11 : decode cX7_some 11 = .ok (.aload_n 0, 1) := by decide +kernel
theorem dX7_some_12 : decode cX7_some 12 = .ok (.getfield 66, 3) := by decide +kernel
theorem dX7_some_15 : decode cX7_some 15 = .ok (.bipush 18, 2) := by decide +kernel
theorem dX7_some_17 : decode cX7_some 17 = .ok (.iload_n 1, 1) := by decide +kernel
theorem dX7_some_18 : decode cX7_some 18 = .ok (.imul, 1) := by decide +kernel
theorem dX7_some_19 : decode cX7_some 19 = .ok (.iload_n 2, 1) := by decide +kernel
theorem dX7_some_20 : decode cX7_some 20 = .ok (.iadd, 1) := by decide +kernel
theorem dX7_some_21 : decode cX7_some 21 = .ok (.iconst 1, 1) := by decide +kernel
theorem dX7_some_22 : decode cX7_some 22 = .ok (.iadd, 1) := by decide +kernel
theorem dX7_some_23 : decode cX7_some 23 = .ok (.iaload, 1) := by decide +kernel
theorem dX7_some_24 : decode cX7_some 24 = .ok (.iadd, 1) := by decide +kernel
theorem dX7_some_25 : decode cX7_some 25 = .ok (.aload_n 0, 1) := by decide +kernel
theorem dX7_some_26 : decode cX7_some 26 = .ok (.getfield 66, 3) := by decide +kernel
theorem dX7_some_29 : decode cX7_some 29 = .ok (.bipush 18, 2) := by decide +kernel
theorem dX7_some_31 : decode cX7_some 31 = .ok (.iload_n 1, 1) := by decide +kernel
theorem dX7_some_32 : decode cX7_some 32 = .ok (.imul, 1) := by decide +kernel
theorem dX7_some_33 : decode cX7_some 33 = .ok (.iload_n 2, 1) := by decide +kernel
theorem dX7_some_34 : decode cX7_some 34 = .ok (.iadd, 1) := by decide +kernel
theorem dX7_some_35 : decode cX7_some 35 = .ok (.iconst 2, 1) := by decide +kernel
theorem dX7_some_36 : decode cX7_some 36 = .ok (.iadd, 1) := by decide +kernel
theorem dX7_some_37 : decode cX7_some 37 = .ok (.iaload, 1) := by decide +kernel
theorem dX7_some_38 : decode cX7_some 38 = .ok (.iadd, 1) := by decide +kernel
theorem dX7_some_39 : decode cX7_some 39 = .ok (.ifCond .le 7, 3) := by decide +kernel
theorem dX7_some_42 : decode cX7_some 42 = .ok (.iconst 1, 1) := by decide +kernel
theorem dX7_some_43 : decode cX7_some 43 = .ok (.goto 4, 3) := by decide +kernel
theorem dX7_some_46 : decode cX7_some 46 = .ok (.iconst 0, 1) := by decide +kernel
theorem dX7_some_47 : decode cX7_some 47 = .ok (.ireturn, 1) := by decide +kernel
theorem dX7_orders_0 : decode cX7_orders 0 = .ok (.aload_n 0, 1) := by decide +kernel
theorem dX7_orders_1 : decode cX7_orders 1 = .ok (.getfield 54, 3) := by decide +kernel
theorem dX7_orders_4 : decode cX7_orders 4 = .ok (.iload_n 1, 1) := by decide +kernel
theorem dX7_orders_5 : decode cX7_orders 5 = .ok (.iaload, 1) := by decide +kernel
theorem dX7_orders_6 : decode cX7_orders 6 = .ok (.iconst 1, 1) := by decide +kernel
theorem dX7_orders_7 : decode cX7_orders 7 = .ok (.if_icmp .eq 12, 3) := by decide +kernel
theorem dX7_orders_10 : decode cX7_orders 10 = .ok (.aload_n 0, 1) := by decide +kernel
theorem dX7_orders_11 : decode cX7_orders 11 = .ok (.getfield 47, 3) := by decide +kernel
theorem dX7_orders_14 : decode cX7_orders 14 = .ok (.iload_n 1, 1) := by decide +kernel
theorem dX7_orders_15 : decode cX7_orders 15 = .ok (.iaload, 1) := by decide +kernel
theorem dX7_orders_16 : decode cX7_orders 16 = .ok (.ifCond .le 5, 3) := by decide +kernel
theorem dX7_orders_19 : decode cX7_orders 19 = .ok (.iconst 0, 1) := by decide +kernel
theorem dX7_orders_20 : decode cX7_orders 20 = .ok (.ireturn, 1) := by decide +kernel
theorem dX7_orders_21 : decode cX7_orders 21 = .ok (.aload_n 0, 1) := by decide +kernel
theorem dX7_orders_22 : decode cX7_orders 22 = .ok (.getfield 38, 3) := by decide +kernel
theorem dX7_orders_25 : decode cX7_orders 25 = .ok (.iload_n 1, 1) := by decide +kernel
theorem dX7_orders_26 : decode cX7_orders 26 = .ok (.iaload, 1) := by decide +kernel
theorem dX7_orders_27 : decode cX7_orders 27 = .ok (.tableswitch 65 0 6 #[41, 65, 43, 45, 43, 65, 63], 41) := by decide +kernel
theorem dX7_orders_68 : decode cX7_orders 68 = .ok (.iconst 0, 1) := by decide +kernel
theorem dX7_orders_69 : decode cX7_orders 69 = .ok (.ireturn, 1) := by decide +kernel
theorem dX7_orders_70 : decode cX7_orders 70 = .ok (.iconst 3, 1) := by decide +kernel
theorem dX7_orders_71 : decode cX7_orders 71 = .ok (.ireturn, 1) := by decide +kernel
theorem dX7_orders_72 : decode cX7_orders 72 = .ok (.aload_n 0, 1) := by decide +kernel
theorem dX7_orders_73 : decode cX7_orders 73 = .ok (.getfield 44, 3) := by decide +kernel
theorem dX7_orders_76 : decode cX7_orders 76 = .ok (.iload_n 1, 1) := by decide +kernel
theorem dX7_orders_77 : decode cX7_orders 77 = .ok (.iaload, 1) := by decide +kernel
theorem dX7_orders_78 : decode cX7_orders 78 = .ok (.iconst 1, 1) := by decide +kernel
theorem dX7_orders_79 : decode cX7_orders 79 = .ok (.if_icmp .ne 8, 3) := by decide +kernel
theorem dX7_orders_82 : decode cX7_orders 82 = .ok (.bipush 11, 2) := by decide +kernel
theorem dX7_orders_84 : decode cX7_orders 84 = .ok (.goto 5, 3) := by decide +kernel
theorem dX7_orders_87 : decode cX7_orders 87 = .ok (.bipush 19, 2) := by decide +kernel
theorem dX7_orders_89 : decode cX7_orders 89 = .ok (.ireturn, 1) := by decide +kernel
theorem dX7_orders_90 : decode cX7_orders 90 = .ok (.iconst 5, 1) := by decide +kernel
theorem dX7_orders_91 : decode cX7_orders 91 = .ok (.ireturn, 1) := by decide +kernel
theorem dX7_orders_92 : decode cX7_orders 92 = .ok (.iconst 1, 1) := by decide +kernel
theorem dX7_orders_93 : decode cX7_orders 93 = .ok (.ireturn, 1) := by decide +kernel
theorem dX7_ordered_0 : decode cX7_ordered 0 = .ok (.aload_n 0, 1) := by decide +kernel
theorem dX7_ordered_1 : decode cX7_ordered 1 = .ok (.iconst 0, 1) := by decide +kernel
theorem dX7_ordered_2 : decode cX7_ordered 2 = .ok (.invokevirtual 111, 3) := by decide +kernel
theorem dX7_ordered_5 : decode cX7_ordered 5 = .ok (.aload_n 0, 1) := by decide +kernel
theorem dX7_ordered_6 : decode cX7_ordered 6 = .ok (.iconst 1, 1) := by decide +kernel
theorem dX7_ordered_7 : decode cX7_ordered 7 = .ok (.invokevirtual 111, 3) := by decide +kernel
theorem dX7_ordered_10 : decode cX7_ordered 10 = .ok (.ior, 1) := by decide +kernel
theorem dX7_ordered_11 : decode cX7_ordered 11 = .ok (.ireturn, 1) := by decide +kernel
theorem dX7_note_0 : decode cX7_note 0 = .ok (.aload_n 0, 1) := by decide +kernel
theorem dX7_note_1 : decode cX7_note 1 = .ok (.getfield 114, 3) := by decide +kernel
theorem dX7_note_4 : decode cX7_note 4 = .ok (.bipush 64, 2) := by decide +kernel
theorem dX7_note_6 : decode cX7_note 6 = .ok (.irem, 1) := by decide +kernel
theorem dX7_note_7 : decode cX7_note 7 = .ok (.istore_n 3, 1) := by decide +kernel
theorem dX7_note_8 : decode cX7_note 8 = .ok (.aload_n 0, 1) := by decide +kernel
theorem dX7_note_9 : decode cX7_note 9 = .ok (.getfield 78, 3) := by decide +kernel
theorem dX7_note_12 : decode cX7_note 12 = .ok (.iconst 3, 1) := by decide +kernel
theorem dX7_note_13 : decode cX7_note 13 = .ok (.iload_n 3, 1) := by decide +kernel
theorem dX7_note_14 : decode cX7_note 14 = .ok (.imul, 1) := by decide +kernel
theorem dX7_note_15 : decode cX7_note 15 = .ok (.aload_n 0, 1) := by decide +kernel
theorem dX7_note_16 : decode cX7_note 16 = .ok (.getfield 117, 3) := by decide +kernel
theorem dX7_note_19 : decode cX7_note 19 = .ok (.iastore, 1) := by decide +kernel
theorem dX7_note_20 : decode cX7_note 20 = .ok (.aload_n 0, 1) := by decide +kernel
theorem dX7_note_21 : decode cX7_note 21 = .ok (.getfield 78, 3) := by decide +kernel
theorem dX7_note_24 : decode cX7_note 24 = .ok (.iconst 3, 1) := by decide +kernel
theorem dX7_note_25 : decode cX7_note 25 = .ok (.iload_n 3, 1) := by decide +kernel
theorem dX7_note_26 : decode cX7_note 26 = .ok (.imul, 1) := by decide +kernel
theorem dX7_note_27 : decode cX7_note 27 = .ok (.iconst 1, 1) := by decide +kernel
theorem dX7_note_28 : decode cX7_note 28 = .ok (.iadd, 1) := by decide +kernel
theorem dX7_note_29 : decode cX7_note 29 = .ok (.iload_n 1, 1) := by decide +kernel
theorem dX7_note_30 : decode cX7_note 30 = .ok (.iastore, 1) := by decide +kernel
theorem dX7_note_31 : decode cX7_note 31 = .ok (.aload_n 0, 1) := by decide +kernel
theorem dX7_note_32 : decode cX7_note 32 = .ok (.getfield 78, 3) := by decide +kernel
theorem dX7_note_35 : decode cX7_note 35 = .ok (.iconst 3, 1) := by decide +kernel
theorem dX7_note_36 : decode cX7_note 36 = .ok (.iload_n 3, 1) := by decide +kernel
theorem dX7_note_37 : decode cX7_note 37 = .ok (.imul, 1) := by decide +kernel
theorem dX7_note_38 : decode cX7_note 38 = .ok (.iconst 2, 1) := by decide +kernel
theorem dX7_note_39 : decode cX7_note 39 = .ok (.iadd, 1) := by decide +kernel
theorem dX7_note_40 : decode cX7_note 40 = .ok (.iload_n 2, 1) := by decide +kernel
theorem dX7_note_41 : decode cX7_note 41 = .ok (.iastore, 1) := by decide +kernel
theorem dX7_note_42 : decode cX7_note 42 = .ok (.aload_n 0, 1) := by decide +kernel
theorem dX7_note_43 : decode cX7_note 43 = .ok (.dup, 1) := by decide +kernel
theorem dX7_note_44 : decode cX7_note 44 = .ok (.getfield 114, 3) := by decide +kernel
theorem dX7_note_47 : decode cX7_note 47 = .ok (.iconst 1, 1) := by decide +kernel
theorem dX7_note_48 : decode cX7_note 48 = .ok (.iadd, 1) := by decide +kernel
theorem dX7_note_49 : decode cX7_note 49 = .ok (.putfield 114, 3) := by decide +kernel
theorem dX7_note_52 : decode cX7_note 52 = .ok (.return_, 1) := by decide +kernel
theorem dX7_come_0 : decode cX7_come 0 = .ok (.aload_n 0, 1) := by decide +kernel
theorem dX7_come_1 : decode cX7_come 1 = .ok (.getfield 38, 3) := by decide +kernel
theorem dX7_come_4 : decode cX7_come 4 = .ok (.iload_n 1, 1) := by decide +kernel
theorem dX7_come_5 : decode cX7_come 5 = .ok (.iload_n 2, 1) := by decide +kernel
theorem dX7_come_6 : decode cX7_come 6 = .ok (.iastore, 1) := by decide +kernel
theorem dX7_come_7 : decode cX7_come 7 = .ok (.aload_n 0, 1) := by decide +kernel
theorem dX7_come_8 : decode cX7_come 8 = .ok (.getfield 41, 3) := by decide +kernel
theorem dX7_come_11 : decode cX7_come 11 = .ok (.iload_n 1, 1) := by decide +kernel
theorem dX7_come_12 : decode cX7_come 12 = .ok (.iconst 0, 1) := by decide +kernel
theorem dX7_come_13 : decode cX7_come 13 = .ok (.iastore, 1) := by decide +kernel
theorem dX7_come_14 : decode cX7_come 14 = .ok (.aload_n 0, 1) := by decide +kernel
theorem dX7_come_15 : decode cX7_come 15 = .ok (.iload_n 1, 1) := by decide +kernel
theorem dX7_come_16 : decode cX7_come 16 = .ok (.iload_n 2, 1) := by decide +kernel
theorem dX7_come_17 : decode cX7_come 17 = .ok (.invokevirtual 120, 3) := by decide +kernel
theorem dX7_come_20 : decode cX7_come 20 = .ok (.return_, 1) := by decide +kernel
theorem dX7_change_0 : decode cX7_change 0 = .ok (.aload_n 0, 1) := by decide +kernel
theorem dX7_change_1 : decode cX7_change 1 = .ok (.getfield 44, 3) := by decide +kernel
theorem dX7_change_4 : decode cX7_change 4 = .ok (.iload_n 1, 1) := by decide +kernel
theorem dX7_change_5 : decode cX7_change 5 = .ok (.aload_n 0, 1) := by decide +kernel
theorem dX7_change_6 : decode cX7_change 6 = .ok (.getfield 66, 3) := by decide +kernel
theorem dX7_change_9 : decode cX7_change 9 = .ok (.bipush 18, 2) := by decide +kernel
theorem dX7_change_11 : decode cX7_change 11 = .ok (.iload_n 1, 1) := by decide +kernel
theorem dX7_change_12 : decode cX7_change 12 = .ok (.imul, 1) := by decide +kernel
theorem dX7_change_13 : decode cX7_change 13 = .ok (.iaload, 1) := by decide +kernel
theorem dX7_change_14 : decode cX7_change 14 = .ok (.iastore, 1) := by decide +kernel
theorem dX7_change_15 : decode cX7_change 15 = .ok (.aload_n 0, 1) := by decide +kernel
theorem dX7_change_16 : decode cX7_change 16 = .ok (.getfield 38, 3) := by decide +kernel
theorem dX7_change_19 : decode cX7_change 19 = .ok (.iload_n 1, 1) := by decide +kernel
theorem dX7_change_20 : decode cX7_change 20 = .ok (.iaload, 1) := by decide +kernel
theorem dX7_change_21 : decode cX7_change 21 = .ok (.istore_n 2, 1) := by decide +kernel
theorem dX7_change_22 : decode cX7_change 22 = .ok (.aload_n 0, 1) := by decide +kernel
theorem dX7_change_23 : decode cX7_change 23 = .ok (.getfield 50, 3) := by decide +kernel
theorem dX7_change_26 : decode cX7_change 26 = .ok (.iload_n 1, 1) := by decide +kernel
theorem dX7_change_27 : decode cX7_change 27 = .ok (.aload_n 0, 1) := by decide +kernel
theorem dX7_change_28 : decode cX7_change 28 = .ok (.getfield 50, 3) := by decide +kernel
theorem dX7_change_31 : decode cX7_change 31 = .ok (.iload_n 1, 1) := by decide +kernel
theorem dX7_change_32 : decode cX7_change 32 = .ok (.baload, 1) := by decide +kernel
theorem dX7_change_33 : decode cX7_change 33 = .ok (.ifCond .ne 20, 3) := by decide +kernel
theorem dX7_change_36 : decode cX7_change 36 = .ok (.iload_n 2, 1) := by decide +kernel
theorem dX7_change_37 : decode cX7_change 37 = .ok (.iconst 5, 1) := by decide +kernel
theorem dX7_change_38 : decode cX7_change 38 = .ok (.if_icmp .eq 15, 3) := by decide +kernel
theorem dX7_change_41 : decode cX7_change 41 = .ok (.iload_n 2, 1) := by decide +kernel
theorem dX7_change_42 : decode cX7_change 42 = .ok (.bipush 6, 2) := by decide +kernel
theorem dX7_change_44 : decode cX7_change 44 = .ok (.if_icmp .eq 9, 3) := by decide +kernel
theorem dX7_change_47 : decode cX7_change 47 = .ok (.iload_n 2, 1) := by decide +kernel
theorem dX7_change_48 : decode cX7_change 48 = .ok (.bipush 7, 2) := by decide +kernel
theorem dX7_change_50 : decode cX7_change 50 = .ok (.if_icmp .ne 7, 3) := by decide +kernel
theorem dX7_change_53 : decode cX7_change 53 = .ok (.iconst 1, 1) := by decide +kernel
theorem dX7_change_54 : decode cX7_change 54 = .ok (.goto 4, 3) := by decide +kernel
theorem dX7_change_57 : decode cX7_change 57 = .ok (.iconst 0, 1) := by decide +kernel
theorem dX7_change_58 : decode cX7_change 58 = .ok (.bastore, 1) := by decide +kernel
theorem dX7_change_59 : decode cX7_change 59 = .ok (.iload_n 2, 1) := by decide +kernel
theorem dX7_change_60 : decode cX7_change 60 = .ok (.ifCond .ne 12, 3) := by decide +kernel
theorem dX7_change_63 : decode cX7_change 63 = .ok (.aload_n 0, 1) := by decide +kernel
theorem dX7_change_64 : decode cX7_change 64 = .ok (.iload_n 1, 1) := by decide +kernel
theorem dX7_change_65 : decode cX7_change 65 = .ok (.iconst 1, 1) := by decide +kernel
theorem dX7_change_66 : decode cX7_change 66 = .ok (.invokevirtual 124, 3) := by decide +kernel
theorem dX7_change_69 : decode cX7_change 69 = .ok (.goto 35, 3) := by decide +kernel
theorem dX7_change_72 : decode cX7_change 72 = .ok (.iload_n 2, 1) := by decide +kernel
theorem dX7_change_73 : decode cX7_change 73 = .ok (.iconst 3, 1) := by decide +kernel
theorem dX7_change_74 : decode cX7_change 74 = .ok (.if_icmp .ne 12, 3) := by decide +kernel
theorem dX7_change_77 : decode cX7_change 77 = .ok (.aload_n 0, 1) := by decide +kernel
theorem dX7_change_78 : decode cX7_change 78 = .ok (.iload_n 1, 1) := by decide +kernel
theorem dX7_change_79 : decode cX7_change 79 = .ok (.iconst 4, 1) := by decide +kernel
theorem dX7_change_80 : decode cX7_change 80 = .ok (.invokevirtual 124, 3) := by decide +kernel
theorem dX7_change_83 : decode cX7_change 83 = .ok (.goto 21, 3) := by decide +kernel
theorem dX7_change_86 : decode cX7_change 86 = .ok (.iload_n 2, 1) := by decide +kernel
theorem dX7_change_87 : decode cX7_change 87 = .ok (.bipush 6, 2) := by decide +kernel
theorem dX7_change_89 : decode cX7_change 89 = .ok (.if_icmp .eq 9, 3) := by decide +kernel
theorem dX7_change_92 : decode cX7_change 92 = .ok (.iload_n 2, 1) := by decide +kernel
theorem dX7_change_93 : decode cX7_change 93 = .ok (.bipush 7, 2) := by decide +kernel
theorem dX7_change_95 : decode cX7_change 95 = .ok (.if_icmp .ne 9, 3) := by decide +kernel
theorem dX7_change_98 : decode cX7_change 98 = .ok (.aload_n 0, 1) := by decide +kernel
theorem dX7_change_99 : decode cX7_change 99 = .ok (.iload_n 1, 1) := by decide +kernel
theorem dX7_change_100 : decode cX7_change 100 = .ok (.iconst 5, 1) := by decide +kernel
theorem dX7_change_101 : decode cX7_change 101 = .ok (.invokevirtual 124, 3) := by decide +kernel
theorem dX7_change_104 : decode cX7_change 104 = .ok (.return_, 1) := by decide +kernel
theorem dX7_advance_0 : decode cX7_advance 0 = .ok (.aload_n 0, 1) := by decide +kernel
theorem dX7_advance_1 : decode cX7_advance 1 = .ok (.iload_n 1, 1) := by decide +kernel
theorem dX7_advance_2 : decode cX7_advance 2 = .ok (.aload_n 0, 1) := by decide +kernel
theorem dX7_advance_3 : decode cX7_advance 3 = .ok (.getfield 44, 3) := by decide +kernel
theorem dX7_advance_6 : decode cX7_advance 6 = .ok (.iload_n 1, 1) := by decide +kernel
theorem dX7_advance_7 : decode cX7_advance 7 = .ok (.iaload, 1) := by decide +kernel
theorem dX7_advance_8 : decode cX7_advance 8 = .ok (.iconst 1, 1) := by decide +kernel
theorem dX7_advance_9 : decode cX7_advance 9 = .ok (.if_icmp .ne 8, 3) := by decide +kernel
theorem dX7_advance_12 : decode cX7_advance 12 = .ok (.bipush 9, 2) := by decide +kernel
theorem dX7_advance_14 : decode cX7_advance 14 = .ok (.goto 5, 3) := by decide +kernel
theorem dX7_advance_17 : decode cX7_advance 17 = .ok (.bipush 12, 2) := by decide +kernel
theorem dX7_advance_19 : decode cX7_advance 19 = .ok (.invokevirtual 127, 3) := by decide +kernel
theorem dX7_advance_22 : decode cX7_advance 22 = .ok (.istore_n 2, 1) := by decide +kernel
theorem dX7_advance_23 : decode cX7_advance 23 = .ok (.aload_n 0, 1) := by decide +kernel
theorem dX7_advance_24 : decode cX7_advance 24 = .ok (.getfield 38, 3) := by decide +kernel
theorem dX7_advance_27 : decode cX7_advance 27 = .ok (.iload_n 1, 1) := by decide +kernel
theorem dX7_advance_28 : decode cX7_advance 28 = .ok (.iaload, 1) := by decide +kernel
theorem dX7_advance_29 : decode cX7_advance 29 = .ok (.tableswitch 222 1 7 #[43, 62, 81, 94, 141, 183, 202], 43) := by decide +kernel
theorem dX7_advance_72 : decode cX7_advance 72 = .ok (.aload_n 0, 1) := by decide +kernel
theorem dX7_advance_73 : decode cX7_advance 73 = .ok (.getfield 41, 3) := by decide +kernel
theorem dX7_advance_76 : decode cX7_advance 76 = .ok (.iload_n 1, 1) := by decide +kernel
theorem dX7_advance_77 : decode cX7_advance 77 = .ok (.iaload, 1) := by decide +kernel
theorem dX7_advance_78 : decode cX7_advance 78 = .ok (.iconst 2, 1) := by decide +kernel
theorem dX7_advance_79 : decode cX7_advance 79 = .ok (.if_icmp .lt 172, 3) := by decide +kernel
theorem dX7_advance_82 : decode cX7_advance 82 = .ok (.aload_n 0, 1) := by decide +kernel
theorem dX7_advance_83 : decode cX7_advance 83 = .ok (.iload_n 1, 1) := by decide +kernel
theorem dX7_advance_84 : decode cX7_advance 84 = .ok (.iconst 2, 1) := by decide +kernel
theorem dX7_advance_85 : decode cX7_advance 85 = .ok (.invokevirtual 124, 3) := by decide +kernel
theorem dX7_advance_88 : decode cX7_advance 88 = .ok (.goto 163, 3) := by decide +kernel
theorem dX7_advance_91 : decode cX7_advance 91 = .ok (.aload_n 0, 1) := by decide +kernel
theorem dX7_advance_92 : decode cX7_advance 92 = .ok (.iload_n 1, 1) := by decide +kernel
theorem dX7_advance_93 : decode cX7_advance 93 = .ok (.bipush 6, 2) := by decide +kernel
theorem dX7_advance_95 : decode cX7_advance 95 = .ok (.invokevirtual 127, 3) := by decide +kernel
theorem dX7_advance_98 : decode cX7_advance 98 = .ok (.ifCond .eq 153, 3) := by decide +kernel
theorem dX7_advance_101 : decode cX7_advance 101 = .ok (.aload_n 0, 1) := by decide +kernel
theorem dX7_advance_102 : decode cX7_advance 102 = .ok (.iload_n 1, 1) := by decide +kernel
theorem dX7_advance_103 : decode cX7_advance 103 = .ok (.iconst 4, 1) := by decide +kernel
theorem dX7_advance_104 : decode cX7_advance 104 = .ok (.invokevirtual 124, 3) := by decide +kernel
theorem dX7_advance_107 : decode cX7_advance 107 = .ok (.goto 144, 3) := by decide +kernel
theorem dX7_advance_110 : decode cX7_advance 110 = .ok (.iload_n 2, 1) := by decide +kernel
theorem dX7_advance_111 : decode cX7_advance 111 = .ok (.ifCond .eq 140, 3) := by decide +kernel
theorem dX7_advance_114 : decode cX7_advance 114 = .ok (.aload_n 0, 1) := by decide +kernel
theorem dX7_advance_115 : decode cX7_advance 115 = .ok (.iload_n 1, 1) := by decide +kernel
theorem dX7_advance_116 : decode cX7_advance 116 = .ok (.iconst 4, 1) := by decide +kernel
theorem dX7_advance_117 : decode cX7_advance 117 = .ok (.invokevirtual 124, 3) := by decide +kernel
theorem dX7_advance_120 : decode cX7_advance 120 = .ok (.goto 131, 3) := by decide +kernel
theorem dX7_advance_123 : decode cX7_advance 123 = .ok (.aload_n 0, 1) := by decide +kernel
theorem dX7_advance_124 : decode cX7_advance 124 = .ok (.getfield 41, 3) := by decide +kernel
theorem dX7_advance_127 : decode cX7_advance 127 = .ok (.iload_n 1, 1) := by decide +kernel
theorem dX7_advance_128 : decode cX7_advance 128 = .ok (.iaload, 1) := by decide +kernel
theorem dX7_advance_129 : decode cX7_advance 129 = .ok (.iconst 1, 1) := by decide +kernel
theorem dX7_advance_130 : decode cX7_advance 130 = .ok (.if_icmp .lt 121, 3) := by decide +kernel
theorem dX7_advance_133 : decode cX7_advance 133 = .ok (.aload_n 0, 1) := by decide +kernel
theorem dX7_advance_134 : decode cX7_advance 134 = .ok (.iload_n 1, 1) := by decide +kernel
theorem dX7_advance_135 : decode cX7_advance 135 = .ok (.iload_n 2, 1) := by decide +kernel
theorem dX7_advance_136 : decode cX7_advance 136 = .ok (.ifCond .ne 27, 3) := by decide +kernel
theorem dX7_advance_139 : decode cX7_advance 139 = .ok (.aload_n 0, 1) := by decide +kernel
theorem dX7_advance_140 : decode cX7_advance 140 = .ok (.getfield 44, 3) := by decide +kernel
theorem dX7_advance_143 : decode cX7_advance 143 = .ok (.iload_n 1, 1) := by decide +kernel
theorem dX7_advance_144 : decode cX7_advance 144 = .ok (.iaload, 1) := by decide +kernel
theorem dX7_advance_145 : decode cX7_advance 145 = .ok (.iconst 1, 1) := by decide +kernel
theorem dX7_advance_146 : decode cX7_advance 146 = .ok (.if_icmp .eq 13, 3) := by decide +kernel
theorem dX7_advance_149 : decode cX7_advance 149 = .ok (.aload_n 0, 1) := by decide +kernel
theorem dX7_advance_150 : decode cX7_advance 150 = .ok (.iload_n 1, 1) := by decide +kernel
theorem dX7_advance_151 : decode cX7_advance 151 = .ok (.bipush 15, 2) := by decide +kernel
theorem dX7_advance_153 : decode cX7_advance 153 = .ok (.invokevirtual 131, 3) := by decide +kernel
theorem dX7_advance_156 : decode cX7_advance 156 = .ok (.ifCond .ne 7, 3) := by decide +kernel
theorem dX7_advance_159 : decode cX7_advance 159 = .ok (.iconst 3, 1) := by decide +kernel
theorem dX7_advance_160 : decode cX7_advance 160 = .ok (.goto 4, 3) := by decide +kernel
theorem dX7_advance_163 : decode cX7_advance 163 = .ok (.iconst 5, 1) := by decide +kernel
theorem dX7_advance_164 : decode cX7_advance 164 = .ok (.invokevirtual 124, 3) := by decide +kernel
theorem dX7_advance_167 : decode cX7_advance 167 = .ok (.goto 84, 3) := by decide +kernel
theorem dX7_advance_170 : decode cX7_advance 170 = .ok (.aload_n 0, 1) := by decide +kernel
theorem dX7_advance_171 : decode cX7_advance 171 = .ok (.getfield 41, 3) := by decide +kernel
theorem dX7_advance_174 : decode cX7_advance 174 = .ok (.iload_n 1, 1) := by decide +kernel
theorem dX7_advance_175 : decode cX7_advance 175 = .ok (.iaload, 1) := by decide +kernel
theorem dX7_advance_176 : decode cX7_advance 176 = .ok (.iconst 1, 1) := by decide +kernel
theorem dX7_advance_177 : decode cX7_advance 177 = .ok (.if_icmp .lt 74, 3) := by decide +kernel
theorem dX7_advance_180 : decode cX7_advance 180 = .ok (.aload_n 0, 1) := by decide +kernel
theorem dX7_advance_181 : decode cX7_advance 181 = .ok (.getfield 50, 3) := by decide +kernel
theorem dX7_advance_184 : decode cX7_advance 184 = .ok (.iload_n 1, 1) := by decide +kernel
theorem dX7_advance_185 : decode cX7_advance 185 = .ok (.baload, 1) := by decide +kernel
theorem dX7_advance_186 : decode cX7_advance 186 = .ok (.istore_n 3, 1) := by decide +kernel
theorem dX7_advance_187 : decode cX7_advance 187 = .ok (.aload_n 0, 1) := by decide +kernel
theorem dX7_advance_188 : decode cX7_advance 188 = .ok (.getfield 50, 3) := by decide +kernel
theorem dX7_advance_191 : decode cX7_advance 191 = .ok (.iload_n 1, 1) := by decide +kernel
theorem dX7_advance_192 : decode cX7_advance 192 = .ok (.iconst 0, 1) := by decide +kernel
theorem dX7_advance_193 : decode cX7_advance 193 = .ok (.bastore, 1) := by decide +kernel
theorem dX7_advance_194 : decode cX7_advance 194 = .ok (.aload_n 0, 1) := by decide +kernel
theorem dX7_advance_195 : decode cX7_advance 195 = .ok (.iload_n 1, 1) := by decide +kernel
theorem dX7_advance_196 : decode cX7_advance 196 = .ok (.iload_n 3, 1) := by decide +kernel
theorem dX7_advance_197 : decode cX7_advance 197 = .ok (.ifCond .eq 7, 3) := by decide +kernel
theorem dX7_advance_200 : decode cX7_advance 200 = .ok (.iconst 2, 1) := by decide +kernel
theorem dX7_advance_201 : decode cX7_advance 201 = .ok (.goto 5, 3) := by decide +kernel
theorem dX7_advance_204 : decode cX7_advance 204 = .ok (.bipush 6, 2) := by decide +kernel
theorem dX7_advance_206 : decode cX7_advance 206 = .ok (.invokevirtual 124, 3) := by decide +kernel
theorem dX7_advance_209 : decode cX7_advance 209 = .ok (.goto 42, 3) := by decide +kernel
theorem dX7_advance_212 : decode cX7_advance 212 = .ok (.aload_n 0, 1) := by decide +kernel
theorem dX7_advance_213 : decode cX7_advance 213 = .ok (.iload_n 1, 1) := by decide +kernel
theorem dX7_advance_214 : decode cX7_advance 214 = .ok (.iconst 3, 1) := by decide +kernel
theorem dX7_advance_215 : decode cX7_advance 215 = .ok (.invokevirtual 127, 3) := by decide +kernel
theorem dX7_advance_218 : decode cX7_advance 218 = .ok (.ifCond .eq 33, 3) := by decide +kernel
theorem dX7_advance_221 : decode cX7_advance 221 = .ok (.aload_n 0, 1) := by decide +kernel
theorem dX7_advance_222 : decode cX7_advance 222 = .ok (.iload_n 1, 1) := by decide +kernel
theorem dX7_advance_223 : decode cX7_advance 223 = .ok (.bipush 7, 2) := by decide +kernel
theorem dX7_advance_225 : decode cX7_advance 225 = .ok (.invokevirtual 124, 3) := by decide +kernel
theorem dX7_advance_228 : decode cX7_advance 228 = .ok (.goto 23, 3) := by decide +kernel
theorem dX7_advance_231 : decode cX7_advance 231 = .ok (.aload_n 0, 1) := by decide +kernel
theorem dX7_advance_232 : decode cX7_advance 232 = .ok (.getfield 41, 3) := by decide +kernel
theorem dX7_advance_235 : decode cX7_advance 235 = .ok (.iload_n 1, 1) := by decide +kernel
theorem dX7_advance_236 : decode cX7_advance 236 = .ok (.iaload, 1) := by decide +kernel
theorem dX7_advance_237 : decode cX7_advance 237 = .ok (.bipush 10, 2) := by decide +kernel
theorem dX7_advance_239 : decode cX7_advance 239 = .ok (.if_icmp .lt 12, 3) := by decide +kernel
theorem dX7_advance_242 : decode cX7_advance 242 = .ok (.aload_n 0, 1) := by decide +kernel
theorem dX7_advance_243 : decode cX7_advance 243 = .ok (.iload_n 1, 1) := by decide +kernel
theorem dX7_advance_244 : decode cX7_advance 244 = .ok (.iconst 0, 1) := by decide +kernel
theorem dX7_advance_245 : decode cX7_advance 245 = .ok (.invokevirtual 124, 3) := by decide +kernel
theorem dX7_advance_248 : decode cX7_advance 248 = .ok (.goto 3, 3) := by decide +kernel
theorem dX7_advance_251 : decode cX7_advance 251 = .ok (.return_, 1) := by decide +kernel
theorem dX7_watch_0 : decode cX7_watch 0 = .ok (.iconst 0, 1) := by decide +kernel
theorem dX7_watch_1 : decode cX7_watch 1 = .ok (.istore_n 2, 1) := by decide +kernel
theorem dX7_watch_2 : decode cX7_watch 2 = .ok (.iconst 0, 1) := by decide +kernel
theorem dX7_watch_3 : decode cX7_watch 3 = .ok (.istore_n 3, 1) := by decide +kernel
theorem dX7_watch_4 : decode cX7_watch 4 = .ok (.iload_n 3, 1) := by decide +kernel
theorem dX7_watch_5 : decode cX7_watch 5 = .ok (.bipush 18, 2) := by decide +kernel
theorem dX7_watch_7 : decode cX7_watch 7 = .ok (.if_icmp .ge 33, 3) := by decide +kernel
theorem dX7_watch_10 : decode cX7_watch 10 = .ok (.iload_n 2, 1) := by decide +kernel
theorem dX7_watch_11 : decode cX7_watch 11 = .ok (.ifCond .ne 17, 3) := by decide +kernel
theorem dX7_watch_14 : decode cX7_watch 14 = .ok (.aload_n 0, 1) := by decide +kernel
theorem dX7_watch_15 : decode cX7_watch 15 = .ok (.getfield 72, 3) := by decide +kernel
theorem dX7_watch_18 : decode cX7_watch 18 = .ok (.bipush 18, 2) := by decide +kernel
theorem dX7_watch_20 : decode cX7_watch 20 = .ok (.iload_n 1, 1) := by decide +kernel
theorem dX7_watch_21 : decode cX7_watch 21 = .ok (.imul, 1) := by decide +kernel
theorem dX7_watch_22 : decode cX7_watch 22 = .ok (.iload_n 3, 1) := by decide +kernel
theorem dX7_watch_23 : decode cX7_watch 23 = .ok (.iadd, 1) := by decide +kernel
theorem dX7_watch_24 : decode cX7_watch 24 = .ok (.baload, 1) := by decide +kernel
theorem dX7_watch_25 : decode cX7_watch 25 = .ok (.ifCond .eq 7, 3) := by decide +kernel
theorem dX7_watch_28 : decode cX7_watch 28 = .ok (.iconst 1, 1) := by decide +kernel
theorem dX7_watch_29 : decode cX7_watch 29 = .ok (.goto 4, 3) := by decide +kernel
theorem dX7_watch_32 : decode cX7_watch 32 = .ok (.iconst 0, 1) := by decide +kernel
theorem dX7_watch_33 : decode cX7_watch 33 = .ok (.istore_n 2, 1) := by decide +kernel
theorem dX7_watch_34 : decode cX7_watch 34 = .ok (.iinc 3 1, 3) := by decide +kernel
theorem dX7_watch_37 : decode cX7_watch 37 = .ok (.goto (-33), 3) := by decide +kernel
theorem dX7_watch_40 : decode cX7_watch 40 = .ok (.aload_n 0, 1) := by decide +kernel
theorem dX7_watch_41 : decode cX7_watch 41 = .ok (.getfield 66, 3) := by decide +kernel
theorem dX7_watch_44 : decode cX7_watch 44 = .ok (.bipush 18, 2) := by decide +kernel
theorem dX7_watch_46 : decode cX7_watch 46 = .ok (.iload_n 1, 1) := by decide +kernel
theorem dX7_watch_47 : decode cX7_watch 47 = .ok (.imul, 1) := by decide +kernel
theorem dX7_watch_48 : decode cX7_watch 48 = .ok (.iconst 1, 1) := by decide +kernel
theorem dX7_watch_49 : decode cX7_watch 49 = .ok (.iadd, 1) := by decide +kernel
theorem dX7_watch_50 : decode cX7_watch 50 = .ok (.iaload, 1) := by decide +kernel
theorem dX7_watch_51 : decode cX7_watch 51 = .ok (.iconst 1, 1) := by decide +kernel
theorem dX7_watch_52 : decode cX7_watch 52 = .ok (.if_icmp .ne 7, 3) := by decide +kernel
theorem dX7_watch_55 : decode cX7_watch 55 = .ok (.iconst 1, 1) := by decide +kernel
theorem dX7_watch_56 : decode cX7_watch 56 = .ok (.goto 4, 3) := by decide +kernel
theorem dX7_watch_59 : decode cX7_watch 59 = .ok (.iconst 0, 1) := by decide +kernel
theorem dX7_watch_60 : decode cX7_watch 60 = .ok (.istore_n 3, 1) := by decide +kernel
theorem dX7_watch_61 : decode cX7_watch 61 = .ok (.aload_n 0, 1) := by decide +kernel
theorem dX7_watch_62 : decode cX7_watch 62 = .ok (.getfield 66, 3) := by decide +kernel
theorem dX7_watch_65 : decode cX7_watch 65 = .ok (.bipush 18, 2) := by decide +kernel
theorem dX7_watch_67 : decode cX7_watch 67 = .ok (.iload_n 1, 1) := by decide +kernel
theorem dX7_watch_68 : decode cX7_watch 68 = .ok (.imul, 1) := by decide +kernel
theorem dX7_watch_69 : decode cX7_watch 69 = .ok (.iconst 2, 1) := by decide +kernel
theorem dX7_watch_70 : decode cX7_watch 70 = .ok (.iadd, 1) := by decide +kernel
theorem dX7_watch_71 : decode cX7_watch 71 = .ok (.iaload, 1) := by decide +kernel
theorem dX7_watch_72 : decode cX7_watch 72 = .ok (.iconst 1, 1) := by decide +kernel
theorem dX7_watch_73 : decode cX7_watch 73 = .ok (.if_icmp .ne 7, 3) := by decide +kernel
theorem dX7_watch_76 : decode cX7_watch 76 = .ok (.iconst 1, 1) := by decide +kernel
theorem dX7_watch_77 : decode cX7_watch 77 = .ok (.goto 4, 3) := by decide +kernel
theorem dX7_watch_80 : decode cX7_watch 80 = .ok (.iconst 0, 1) := by decide +kernel
theorem dX7_watch_81 : decode cX7_watch 81 = .ok (.istore 4, 2) := by decide +kernel
theorem dX7_watch_83 : decode cX7_watch 83 = .ok (.iconst 5, 1) := by decide +kernel
theorem dX7_watch_84 : decode cX7_watch 84 = .ok (.iload_n 1, 1) := by decide +kernel
theorem dX7_watch_85 : decode cX7_watch 85 = .ok (.imul, 1) := by decide +kernel
theorem dX7_watch_86 : decode cX7_watch 86 = .ok (.istore 5, 2) := by decide +kernel
theorem dX7_watch_88 : decode cX7_watch 88 = .ok (.iload_n 2, 1) := by decide +kernel
theorem dX7_watch_89 : decode cX7_watch 89 = .ok (.ifCond .eq 7, 3) := by decide +kernel
theorem dX7_watch_92 : decode cX7_watch 92 = .ok (.iconst 1, 1) := by decide +kernel
theorem dX7_watch_93 : decode cX7_watch 93 = .ok (.goto 256, 3) := by decide +kernel
theorem dX7_watch_96 : decode cX7_watch 96 = .ok (.aload_n 0, 1) := by decide +kernel
theorem dX7_watch_97 : decode cX7_watch 97 = .ok (.getfield 57, 3) := by decide +kernel
theorem dX7_watch_100 : decode cX7_watch 100 = .ok (.iload_n 1, 1) := by decide +kernel
theorem dX7_watch_101 : decode cX7_watch 101 = .ok (.iaload, 1) := by decide +kernel
theorem dX7_watch_102 : decode cX7_watch 102 = .ok (.bipush 10, 2) := by decide +kernel
theorem dX7_watch_104 : decode cX7_watch 104 = .ok (.if_icmp .ne 11, 3) := by decide +kernel
theorem dX7_watch_107 : decode cX7_watch 107 = .ok (.iload_n 3, 1) := by decide +kernel
theorem dX7_watch_108 : decode cX7_watch 108 = .ok (.ifCond .ne 7, 3) := by decide +kernel
theorem dX7_watch_111 : decode cX7_watch 111 = .ok (.iconst 2, 1) := by decide +kernel
theorem dX7_watch_112 : decode cX7_watch 112 = .ok (.goto 237, 3) := by decide +kernel
theorem dX7_watch_115 : decode cX7_watch 115 = .ok (.aload_n 0, 1) := by decide +kernel
theorem dX7_watch_116 : decode cX7_watch 116 = .ok (.getfield 57, 3) := by decide +kernel
theorem dX7_watch_119 : decode cX7_watch 119 = .ok (.iload_n 1, 1) := by decide +kernel
theorem dX7_watch_120 : decode cX7_watch 120 = .ok (.iaload, 1) := by decide +kernel
theorem dX7_watch_121 : decode cX7_watch 121 = .ok (.ifCond .lt 15, 3) := by decide +kernel
theorem dX7_watch_124 : decode cX7_watch 124 = .ok (.aload_n 0, 1) := by decide +kernel
theorem dX7_watch_125 : decode cX7_watch 125 = .ok (.getfield 57, 3) := by decide +kernel
theorem dX7_watch_128 : decode cX7_watch 128 = .ok (.iload_n 1, 1) := by decide +kernel
theorem dX7_watch_129 : decode cX7_watch 129 = .ok (.iaload, 1) := by decide +kernel
theorem dX7_watch_130 : decode cX7_watch 130 = .ok (.sipush 216, 3) := by decide +kernel
theorem dX7_watch_133 : decode cX7_watch 133 = .ok (.if_icmp .lt 11, 3) := by decide +kernel
theorem dX7_watch_136 : decode cX7_watch 136 = .ok (.iload_n 3, 1) := by decide +kernel
theorem dX7_watch_137 : decode cX7_watch 137 = .ok (.ifCond .eq 7, 3) := by decide +kernel
theorem dX7_watch_140 : decode cX7_watch 140 = .ok (.iconst 3, 1) := by decide +kernel
theorem dX7_watch_141 : decode cX7_watch 141 = .ok (.goto 208, 3) := by decide +kernel
theorem dX7_watch_144 : decode cX7_watch 144 = .ok (.aload_n 0, 1) := by decide +kernel
theorem dX7_watch_145 : decode cX7_watch 145 = .ok (.getfield 60, 3) := by decide +kernel
theorem dX7_watch_148 : decode cX7_watch 148 = .ok (.iload 5, 2) := by decide +kernel
theorem dX7_watch_150 : decode cX7_watch 150 = .ok (.iaload, 1) := by decide +kernel
theorem dX7_watch_151 : decode cX7_watch 151 = .ok (.bipush 30, 2) := by decide +kernel
theorem dX7_watch_153 : decode cX7_watch 153 = .ok (.if_icmp .lt 12, 3) := by decide +kernel
theorem dX7_watch_156 : decode cX7_watch 156 = .ok (.iload 4, 2) := by decide +kernel
theorem dX7_watch_158 : decode cX7_watch 158 = .ok (.ifCond .ne 7, 3) := by decide +kernel
theorem dX7_watch_161 : decode cX7_watch 161 = .ok (.iconst 4, 1) := by decide +kernel
theorem dX7_watch_162 : decode cX7_watch 162 = .ok (.goto 187, 3) := by decide +kernel
theorem dX7_watch_165 : decode cX7_watch 165 = .ok (.aload_n 0, 1) := by decide +kernel
theorem dX7_watch_166 : decode cX7_watch 166 = .ok (.getfield 63, 3) := by decide +kernel
theorem dX7_watch_169 : decode cX7_watch 169 = .ok (.iload_n 1, 1) := by decide +kernel
theorem dX7_watch_170 : decode cX7_watch 170 = .ok (.iaload, 1) := by decide +kernel
theorem dX7_watch_171 : decode cX7_watch 171 = .ok (.bipush 100, 2) := by decide +kernel
theorem dX7_watch_173 : decode cX7_watch 173 = .ok (.if_icmp .lt 12, 3) := by decide +kernel
theorem dX7_watch_176 : decode cX7_watch 176 = .ok (.iload 4, 2) := by decide +kernel
theorem dX7_watch_178 : decode cX7_watch 178 = .ok (.ifCond .eq 7, 3) := by decide +kernel
theorem dX7_watch_181 : decode cX7_watch 181 = .ok (.iconst 5, 1) := by decide +kernel
theorem dX7_watch_182 : decode cX7_watch 182 = .ok (.goto 167, 3) := by decide +kernel
theorem dX7_watch_185 : decode cX7_watch 185 = .ok (.aload_n 0, 1) := by decide +kernel
theorem dX7_watch_186 : decode cX7_watch 186 = .ok (.getfield 60, 3) := by decide +kernel
theorem dX7_watch_189 : decode cX7_watch 189 = .ok (.iload 5, 2) := by decide +kernel
theorem dX7_watch_191 : decode cX7_watch 191 = .ok (.iconst 1, 1) := by decide +kernel
theorem dX7_watch_192 : decode cX7_watch 192 = .ok (.iadd, 1) := by decide +kernel
theorem dX7_watch_193 : decode cX7_watch 193 = .ok (.iaload, 1) := by decide +kernel
theorem dX7_watch_194 : decode cX7_watch 194 = .ok (.bipush 70, 2) := by decide +kernel
theorem dX7_watch_196 : decode cX7_watch 196 = .ok (.if_icmp .lt 18, 3) := by decide +kernel
theorem dX7_watch_199 : decode cX7_watch 199 = .ok (.aload_n 0, 1) := by decide +kernel
theorem dX7_watch_200 : decode cX7_watch 200 = .ok (.iload_n 1, 1) := by decide +kernel
theorem dX7_watch_201 : decode cX7_watch 201 = .ok (.bipush 6, 2) := by decide +kernel
theorem dX7_watch_203 : decode cX7_watch 203 = .ok (.invokevirtual 127, 3) := by decide +kernel
theorem dX7_watch_206 : decode cX7_watch 206 = .ok (.ifCond .ne 8, 3) := by decide +kernel
theorem dX7_watch_209 : decode cX7_watch 209 = .ok (.bipush 6, 2) := by decide +kernel
theorem dX7_watch_211 : decode cX7_watch 211 = .ok (.goto 138, 3) := by decide +kernel
theorem dX7_watch_214 : decode cX7_watch 214 = .ok (.aload_n 0, 1) := by decide +kernel
theorem dX7_watch_215 : decode cX7_watch 215 = .ok (.getfield 60, 3) := by decide +kernel
theorem dX7_watch_218 : decode cX7_watch 218 = .ok (.iload 5, 2) := by decide +kernel
theorem dX7_watch_220 : decode cX7_watch 220 = .ok (.iconst 2, 1) := by decide +kernel
theorem dX7_watch_221 : decode cX7_watch 221 = .ok (.iadd, 1) := by decide +kernel
theorem dX7_watch_222 : decode cX7_watch 222 = .ok (.iaload, 1) := by decide +kernel
theorem dX7_watch_223 : decode cX7_watch 223 = .ok (.bipush 70, 2) := by decide +kernel
theorem dX7_watch_225 : decode cX7_watch 225 = .ok (.if_icmp .lt 17, 3) := by decide +kernel
theorem dX7_watch_228 : decode cX7_watch 228 = .ok (.aload_n 0, 1) := by decide +kernel
theorem dX7_watch_229 : decode cX7_watch 229 = .ok (.iload_n 1, 1) := by decide +kernel
theorem dX7_watch_230 : decode cX7_watch 230 = .ok (.iconst 3, 1) := by decide +kernel
theorem dX7_watch_231 : decode cX7_watch 231 = .ok (.invokevirtual 127, 3) := by decide +kernel
theorem dX7_watch_234 : decode cX7_watch 234 = .ok (.ifCond .ne 8, 3) := by decide +kernel
theorem dX7_watch_237 : decode cX7_watch 237 = .ok (.bipush 7, 2) := by decide +kernel
theorem dX7_watch_239 : decode cX7_watch 239 = .ok (.goto 110, 3) := by decide +kernel
theorem dX7_watch_242 : decode cX7_watch 242 = .ok (.aload_n 0, 1) := by decide +kernel
theorem dX7_watch_243 : decode cX7_watch 243 = .ok (.getfield 60, 3) := by decide +kernel
theorem dX7_watch_246 : decode cX7_watch 246 = .ok (.iload 5, 2) := by decide +kernel
theorem dX7_watch_248 : decode cX7_watch 248 = .ok (.iconst 3, 1) := by decide +kernel
theorem dX7_watch_249 : decode cX7_watch 249 = .ok (.iadd, 1) := by decide +kernel
theorem dX7_watch_250 : decode cX7_watch 250 = .ok (.iaload, 1) := by decide +kernel
theorem dX7_watch_251 : decode cX7_watch 251 = .ok (.bipush 70, 2) := by decide +kernel
theorem dX7_watch_253 : decode cX7_watch 253 = .ok (.if_icmp .lt 13, 3) := by decide +kernel
theorem dX7_watch_256 : decode cX7_watch 256 = .ok (.aload_n 0, 1) := by decide +kernel
theorem dX7_watch_257 : decode cX7_watch 257 = .ok (.iload_n 1, 1) := by decide +kernel
theorem dX7_watch_258 : decode cX7_watch 258 = .ok (.bipush 12, 2) := by decide +kernel
theorem dX7_watch_260 : decode cX7_watch 260 = .ok (.invokevirtual 131, 3) := by decide +kernel
theorem dX7_watch_263 : decode cX7_watch 263 = .ok (.ifCond .ne 27, 3) := by decide +kernel
theorem dX7_watch_266 : decode cX7_watch 266 = .ok (.aload_n 0, 1) := by decide +kernel
theorem dX7_watch_267 : decode cX7_watch 267 = .ok (.getfield 60, 3) := by decide +kernel
theorem dX7_watch_270 : decode cX7_watch 270 = .ok (.iload 5, 2) := by decide +kernel
theorem dX7_watch_272 : decode cX7_watch 272 = .ok (.iconst 4, 1) := by decide +kernel
theorem dX7_watch_273 : decode cX7_watch 273 = .ok (.iadd, 1) := by decide +kernel
theorem dX7_watch_274 : decode cX7_watch 274 = .ok (.iaload, 1) := by decide +kernel
theorem dX7_watch_275 : decode cX7_watch 275 = .ok (.bipush 70, 2) := by decide +kernel
theorem dX7_watch_277 : decode cX7_watch 277 = .ok (.if_icmp .lt 18, 3) := by decide +kernel
theorem dX7_watch_280 : decode cX7_watch 280 = .ok (.aload_n 0, 1) := by decide +kernel
theorem dX7_watch_281 : decode cX7_watch 281 = .ok (.iload_n 1, 1) := by decide +kernel
theorem dX7_watch_282 : decode cX7_watch 282 = .ok (.bipush 9, 2) := by decide +kernel
theorem dX7_watch_284 : decode cX7_watch 284 = .ok (.invokevirtual 131, 3) := by decide +kernel
theorem dX7_watch_287 : decode cX7_watch 287 = .ok (.ifCond .eq 8, 3) := by decide +kernel
theorem dX7_watch_290 : decode cX7_watch 290 = .ok (.bipush 8, 2) := by decide +kernel
theorem dX7_watch_292 : decode cX7_watch 292 = .ok (.goto 57, 3) := by decide +kernel
theorem dX7_watch_295 : decode cX7_watch 295 = .ok (.aload_n 0, 1) := by decide +kernel
theorem dX7_watch_296 : decode cX7_watch 296 = .ok (.getfield 60, 3) := by decide +kernel
theorem dX7_watch_299 : decode cX7_watch 299 = .ok (.iload 5, 2) := by decide +kernel
theorem dX7_watch_301 : decode cX7_watch 301 = .ok (.iconst 3, 1) := by decide +kernel
theorem dX7_watch_302 : decode cX7_watch 302 = .ok (.iadd, 1) := by decide +kernel
theorem dX7_watch_303 : decode cX7_watch 303 = .ok (.iaload, 1) := by decide +kernel
theorem dX7_watch_304 : decode cX7_watch 304 = .ok (.bipush 100, 2) := by decide +kernel
theorem dX7_watch_306 : decode cX7_watch 306 = .ok (.if_icmp .lt 13, 3) := by decide +kernel
theorem dX7_watch_309 : decode cX7_watch 309 = .ok (.aload_n 0, 1) := by decide +kernel
theorem dX7_watch_310 : decode cX7_watch 310 = .ok (.iload_n 1, 1) := by decide +kernel
theorem dX7_watch_311 : decode cX7_watch 311 = .ok (.bipush 9, 2) := by decide +kernel
theorem dX7_watch_313 : decode cX7_watch 313 = .ok (.invokevirtual 127, 3) := by decide +kernel
theorem dX7_watch_316 : decode cX7_watch 316 = .ok (.ifCond .eq 27, 3) := by decide +kernel
theorem dX7_watch_319 : decode cX7_watch 319 = .ok (.aload_n 0, 1) := by decide +kernel
theorem dX7_watch_320 : decode cX7_watch 320 = .ok (.getfield 60, 3) := by decide +kernel
theorem dX7_watch_323 : decode cX7_watch 323 = .ok (.iload 5, 2) := by decide +kernel
theorem dX7_watch_325 : decode cX7_watch 325 = .ok (.iconst 4, 1) := by decide +kernel
theorem dX7_watch_326 : decode cX7_watch 326 = .ok (.iadd, 1) := by decide +kernel
theorem dX7_watch_327 : decode cX7_watch 327 = .ok (.iaload, 1) := by decide +kernel
theorem dX7_watch_328 : decode cX7_watch 328 = .ok (.bipush 100, 2) := by decide +kernel
theorem dX7_watch_330 : decode cX7_watch 330 = .ok (.if_icmp .lt 18, 3) := by decide +kernel
theorem dX7_watch_333 : decode cX7_watch 333 = .ok (.aload_n 0, 1) := by decide +kernel
theorem dX7_watch_334 : decode cX7_watch 334 = .ok (.iload_n 1, 1) := by decide +kernel
theorem dX7_watch_335 : decode cX7_watch 335 = .ok (.bipush 12, 2) := by decide +kernel
theorem dX7_watch_337 : decode cX7_watch 337 = .ok (.invokevirtual 127, 3) := by decide +kernel
theorem dX7_watch_340 : decode cX7_watch 340 = .ok (.ifCond .ne 8, 3) := by decide +kernel
theorem dX7_watch_343 : decode cX7_watch 343 = .ok (.bipush 9, 2) := by decide +kernel
theorem dX7_watch_345 : decode cX7_watch 345 = .ok (.goto 4, 3) := by decide +kernel
theorem dX7_watch_348 : decode cX7_watch 348 = .ok (.iconst 0, 1) := by decide +kernel
theorem dX7_watch_349 : decode cX7_watch 349 = .ok (.ireturn, 1) := by decide +kernel
theorem dX7_act_0 : decode cX7_act 0 = .ok (.aload_n 0, 1) := by decide +kernel
theorem dX7_act_1 : decode cX7_act 1 = .ok (.getfield 54, 3) := by decide +kernel
theorem dX7_act_4 : decode cX7_act 4 = .ok (.iload_n 1, 1) := by decide +kernel
theorem dX7_act_5 : decode cX7_act 5 = .ok (.iaload, 1) := by decide +kernel
theorem dX7_act_6 : decode cX7_act 6 = .ok (.iconst 1, 1) := by decide +kernel
theorem dX7_act_7 : decode cX7_act 7 = .ok (.if_icmp .ne 4, 3) := by decide +kernel
theorem dX7_act_10 : decode cX7_act 10 = .ok (.return_, 1) := by decide +kernel
theorem dX7_act_11 : decode cX7_act 11 = .ok (.aload_n 0, 1) := by decide +kernel
theorem dX7_act_12 : decode cX7_act 12 = .ok (.getfield 66, 3) := by decide +kernel
theorem dX7_act_15 : decode cX7_act 15 = .ok (.bipush 18, 2) := by decide +kernel
theorem dX7_act_17 : decode cX7_act 17 = .ok (.iload_n 1, 1) := by decide +kernel
theorem dX7_act_18 : decode cX7_act 18 = .ok (.imul, 1) := by decide +kernel
theorem dX7_act_19 : decode cX7_act 19 = .ok (.iaload, 1) := by decide +kernel
theorem dX7_act_20 : decode cX7_act 20 = .ok (.istore_n 2, 1) := by decide +kernel
theorem dX7_act_21 : decode cX7_act 21 = .ok (.iconst 0, 1) := by decide +kernel
theorem dX7_act_22 : decode cX7_act 22 = .ok (.istore_n 3, 1) := by decide +kernel
theorem dX7_act_23 : decode cX7_act 23 = .ok (.iload_n 3, 1) := by decide +kernel
theorem dX7_act_24 : decode cX7_act 24 = .ok (.bipush 18, 2) := by decide +kernel
theorem dX7_act_26 : decode cX7_act 26 = .ok (.if_icmp .ge 15, 3) := by decide +kernel
theorem dX7_act_29 : decode cX7_act 29 = .ok (.aload_n 0, 1) := by decide +kernel
theorem dX7_act_30 : decode cX7_act 30 = .ok (.iload_n 1, 1) := by decide +kernel
theorem dX7_act_31 : decode cX7_act 31 = .ok (.iload_n 3, 1) := by decide +kernel
theorem dX7_act_32 : decode cX7_act 32 = .ok (.invokevirtual 134, 3) := by decide +kernel
theorem dX7_act_35 : decode cX7_act 35 = .ok (.iinc 3 1, 3) := by decide +kernel
theorem dX7_act_38 : decode cX7_act 38 = .ok (.goto (-15), 3) := by decide +kernel
theorem dX7_act_41 : decode cX7_act 41 = .ok (.aload_n 0, 1) := by decide +kernel
theorem dX7_act_42 : decode cX7_act 42 = .ok (.getfield 57, 3) := by decide +kernel
theorem dX7_act_45 : decode cX7_act 45 = .ok (.iload_n 1, 1) := by decide +kernel
theorem dX7_act_46 : decode cX7_act 46 = .ok (.aload_n 0, 1) := by decide +kernel
theorem dX7_act_47 : decode cX7_act 47 = .ok (.getfield 66, 3) := by decide +kernel
theorem dX7_act_50 : decode cX7_act 50 = .ok (.bipush 18, 2) := by decide +kernel
theorem dX7_act_52 : decode cX7_act 52 = .ok (.iload_n 1, 1) := by decide +kernel
theorem dX7_act_53 : decode cX7_act 53 = .ok (.imul, 1) := by decide +kernel
theorem dX7_act_54 : decode cX7_act 54 = .ok (.iaload, 1) := by decide +kernel
theorem dX7_act_55 : decode cX7_act 55 = .ok (.iload_n 2, 1) := by decide +kernel
theorem dX7_act_56 : decode cX7_act 56 = .ok (.if_icmp .eq 7, 3) := by decide +kernel
theorem dX7_act_59 : decode cX7_act 59 = .ok (.iconst 0, 1) := by decide +kernel
theorem dX7_act_60 : decode cX7_act 60 = .ok (.goto 42, 3) := by decide +kernel
theorem dX7_act_63 : decode cX7_act 63 = .ok (.aload_n 0, 1) := by decide +kernel
theorem dX7_act_64 : decode cX7_act 64 = .ok (.getfield 57, 3) := by decide +kernel
theorem dX7_act_67 : decode cX7_act 67 = .ok (.iload_n 1, 1) := by decide +kernel
theorem dX7_act_68 : decode cX7_act 68 = .ok (.iaload, 1) := by decide +kernel
theorem dX7_act_69 : decode cX7_act 69 = .ok (.ifCond .ge 7, 3) := by decide +kernel
theorem dX7_act_72 : decode cX7_act 72 = .ok (.iconst (-1), 1) := by decide +kernel
theorem dX7_act_73 : decode cX7_act 73 = .ok (.goto 29, 3) := by decide +kernel
theorem dX7_act_76 : decode cX7_act 76 = .ok (.aload_n 0, 1) := by decide +kernel
theorem dX7_act_77 : decode cX7_act 77 = .ok (.getfield 57, 3) := by decide +kernel
theorem dX7_act_80 : decode cX7_act 80 = .ok (.iload_n 1, 1) := by decide +kernel
theorem dX7_act_81 : decode cX7_act 81 = .ok (.iaload, 1) := by decide +kernel
theorem dX7_act_82 : decode cX7_act 82 = .ok (.sipush 1000, 3) := by decide +kernel
theorem dX7_act_85 : decode cX7_act 85 = .ok (.if_icmp .ge 14, 3) := by decide +kernel
theorem dX7_act_88 : decode cX7_act 88 = .ok (.aload_n 0, 1) := by decide +kernel
theorem dX7_act_89 : decode cX7_act 89 = .ok (.getfield 57, 3) := by decide +kernel
theorem dX7_act_92 : decode cX7_act 92 = .ok (.iload_n 1, 1) := by decide +kernel
theorem dX7_act_93 : decode cX7_act 93 = .ok (.iaload, 1) := by decide +kernel
theorem dX7_act_94 : decode cX7_act 94 = .ok (.iconst 1, 1) := by decide +kernel
theorem dX7_act_95 : decode cX7_act 95 = .ok (.iadd, 1) := by decide +kernel
theorem dX7_act_96 : decode cX7_act 96 = .ok (.goto 6, 3) := by decide +kernel
theorem dX7_act_99 : decode cX7_act 99 = .ok (.sipush 1000, 3) := by decide +kernel
theorem dX7_act_102 : decode cX7_act 102 = .ok (.iastore, 1) := by decide +kernel
theorem dX7_act_103 : decode cX7_act 103 = .ok (.aload_n 0, 1) := by decide +kernel
theorem dX7_act_104 : decode cX7_act 104 = .ok (.getfield 47, 3) := by decide +kernel
theorem dX7_act_107 : decode cX7_act 107 = .ok (.iload_n 1, 1) := by decide +kernel
theorem dX7_act_108 : decode cX7_act 108 = .ok (.iaload, 1) := by decide +kernel
theorem dX7_act_109 : decode cX7_act 109 = .ok (.ifCond .le 4, 3) := by decide +kernel
theorem dX7_act_112 : decode cX7_act 112 = .ok (.return_, 1) := by decide +kernel
theorem dX7_act_113 : decode cX7_act 113 = .ok (.aload_n 0, 1) := by decide +kernel
theorem dX7_act_114 : decode cX7_act 114 = .ok (.getfield 41, 3) := by decide +kernel
theorem dX7_act_117 : decode cX7_act 117 = .ok (.iload_n 1, 1) := by decide +kernel
theorem dX7_act_118 : decode cX7_act 118 = .ok (.aload_n 0, 1) := by decide +kernel
theorem dX7_act_119 : decode cX7_act 119 = .ok (.getfield 41, 3) := by decide +kernel
theorem dX7_act_122 : decode cX7_act 122 = .ok (.iload_n 1, 1) := by decide +kernel
theorem dX7_act_123 : decode cX7_act 123 = .ok (.iaload, 1) := by decide +kernel
theorem dX7_act_124 : decode cX7_act 124 = .ok (.bipush 99, 2) := by decide +kernel
theorem dX7_act_126 : decode cX7_act 126 = .ok (.if_icmp .ge 14, 3) := by decide +kernel
theorem dX7_act_129 : decode cX7_act 129 = .ok (.aload_n 0, 1) := by decide +kernel
theorem dX7_act_130 : decode cX7_act 130 = .ok (.getfield 41, 3) := by decide +kernel
theorem dX7_act_133 : decode cX7_act 133 = .ok (.iload_n 1, 1) := by decide +kernel
theorem dX7_act_134 : decode cX7_act 134 = .ok (.iaload, 1) := by decide +kernel
theorem dX7_act_135 : decode cX7_act 135 = .ok (.iconst 1, 1) := by decide +kernel
theorem dX7_act_136 : decode cX7_act 136 = .ok (.iadd, 1) := by decide +kernel
theorem dX7_act_137 : decode cX7_act 137 = .ok (.goto 5, 3) := by decide +kernel
theorem dX7_act_140 : decode cX7_act 140 = .ok (.bipush 99, 2) := by decide +kernel
theorem dX7_act_142 : decode cX7_act 142 = .ok (.iastore, 1) := by decide +kernel
theorem dX7_act_143 : decode cX7_act 143 = .ok (.aload_n 0, 1) := by decide +kernel
theorem dX7_act_144 : decode cX7_act 144 = .ok (.getfield 66, 3) := by decide +kernel
theorem dX7_act_147 : decode cX7_act 147 = .ok (.bipush 18, 2) := by decide +kernel
theorem dX7_act_149 : decode cX7_act 149 = .ok (.iload_n 1, 1) := by decide +kernel
theorem dX7_act_150 : decode cX7_act 150 = .ok (.imul, 1) := by decide +kernel
theorem dX7_act_151 : decode cX7_act 151 = .ok (.iaload, 1) := by decide +kernel
theorem dX7_act_152 : decode cX7_act 152 = .ok (.aload_n 0, 1) := by decide +kernel
theorem dX7_act_153 : decode cX7_act 153 = .ok (.getfield 44, 3) := by decide +kernel
theorem dX7_act_156 : decode cX7_act 156 = .ok (.iload_n 1, 1) := by decide +kernel
theorem dX7_act_157 : decode cX7_act 157 = .ok (.iaload, 1) := by decide +kernel
theorem dX7_act_158 : decode cX7_act 158 = .ok (.if_icmp .eq 11, 3) := by decide +kernel
theorem dX7_act_161 : decode cX7_act 161 = .ok (.aload_n 0, 1) := by decide +kernel
theorem dX7_act_162 : decode cX7_act 162 = .ok (.iload_n 1, 1) := by decide +kernel
theorem dX7_act_163 : decode cX7_act 163 = .ok (.invokevirtual 137, 3) := by decide +kernel
theorem dX7_act_166 : decode cX7_act 166 = .ok (.goto 8, 3) := by decide +kernel
theorem dX7_act_169 : decode cX7_act 169 = .ok (.aload_n 0, 1) := by decide +kernel
theorem dX7_act_170 : decode cX7_act 170 = .ok (.iload_n 1, 1) := by decide +kernel
theorem dX7_act_171 : decode cX7_act 171 = .ok (.invokevirtual 141, 3) := by decide +kernel
theorem dX7_act_174 : decode cX7_act 174 = .ok (.aload_n 0, 1) := by decide +kernel
theorem dX7_act_175 : decode cX7_act 175 = .ok (.iload_n 1, 1) := by decide +kernel
theorem dX7_act_176 : decode cX7_act 176 = .ok (.invokevirtual 111, 3) := by decide +kernel
theorem dX7_act_179 : decode cX7_act 179 = .ok (.istore_n 3, 1) := by decide +kernel
theorem dX7_act_180 : decode cX7_act 180 = .ok (.iconst 0, 1) := by decide +kernel
theorem dX7_act_181 : decode cX7_act 181 = .ok (.istore 4, 2) := by decide +kernel
theorem dX7_act_183 : decode cX7_act 183 = .ok (.iload 4, 2) := by decide +kernel
theorem dX7_act_185 : decode cX7_act 185 = .ok (.iconst 5, 1) := by decide +kernel
theorem dX7_act_186 : decode cX7_act 186 = .ok (.if_icmp .ge 47, 3) := by decide +kernel
theorem dX7_act_189 : decode cX7_act 189 = .ok (.aload_n 0, 1) := by decide +kernel
theorem dX7_act_190 : decode cX7_act 190 = .ok (.getfield 60, 3) := by decide +kernel
theorem dX7_act_193 : decode cX7_act 193 = .ok (.iconst 5, 1) := by decide +kernel
theorem dX7_act_194 : decode cX7_act 194 = .ok (.iload_n 1, 1) := by decide +kernel
theorem dX7_act_195 : decode cX7_act 195 = .ok (.imul, 1) := by decide +kernel
theorem dX7_act_196 : decode cX7_act 196 = .ok (.iload 4, 2) := by decide +kernel
theorem dX7_act_198 : decode cX7_act 198 = .ok (.iadd, 1) := by decide +kernel
theorem dX7_act_199 : decode cX7_act 199 = .ok (.iload_n 3, 1) := by decide +kernel
theorem dX7_act_200 : decode cX7_act 200 = .ok (.iload 4, 2) := by decide +kernel
theorem dX7_act_202 : decode cX7_act 202 = .ok (.ishr, 1) := by decide +kernel
theorem dX7_act_203 : decode cX7_act 203 = .ok (.iconst 1, 1) := by decide +kernel
theorem dX7_act_204 : decode cX7_act 204 = .ok (.iand, 1) := by decide +kernel
theorem dX7_act_205 : decode cX7_act 205 = .ok (.iconst 1, 1) := by decide +kernel
theorem dX7_act_206 : decode cX7_act 206 = .ok (.if_icmp .ne 19, 3) := by decide +kernel
theorem dX7_act_209 : decode cX7_act 209 = .ok (.aload_n 0, 1) := by decide +kernel
theorem dX7_act_210 : decode cX7_act 210 = .ok (.getfield 60, 3) := by decide +kernel
theorem dX7_act_213 : decode cX7_act 213 = .ok (.iconst 5, 1) := by decide +kernel
theorem dX7_act_214 : decode cX7_act 214 = .ok (.iload_n 1, 1) := by decide +kernel
theorem dX7_act_215 : decode cX7_act 215 = .ok (.imul, 1) := by decide +kernel
theorem dX7_act_216 : decode cX7_act 216 = .ok (.iload 4, 2) := by decide +kernel
theorem dX7_act_218 : decode cX7_act 218 = .ok (.iadd, 1) := by decide +kernel
theorem dX7_act_219 : decode cX7_act 219 = .ok (.iaload, 1) := by decide +kernel
theorem dX7_act_220 : decode cX7_act 220 = .ok (.iconst 1, 1) := by decide +kernel
theorem dX7_act_221 : decode cX7_act 221 = .ok (.iadd, 1) := by decide +kernel
theorem dX7_act_222 : decode cX7_act 222 = .ok (.goto 4, 3) := by decide +kernel
theorem dX7_act_225 : decode cX7_act 225 = .ok (.iconst 0, 1) := by decide +kernel
theorem dX7_act_226 : decode cX7_act 226 = .ok (.iastore, 1) := by decide +kernel
theorem dX7_act_227 : decode cX7_act 227 = .ok (.iinc 4 1, 3) := by decide +kernel
theorem dX7_act_230 : decode cX7_act 230 = .ok (.goto (-47), 3) := by decide +kernel
theorem dX7_act_233 : decode cX7_act 233 = .ok (.aload_n 0, 1) := by decide +kernel
theorem dX7_act_234 : decode cX7_act 234 = .ok (.getfield 63, 3) := by decide +kernel
theorem dX7_act_237 : decode cX7_act 237 = .ok (.iload_n 1, 1) := by decide +kernel
theorem dX7_act_238 : decode cX7_act 238 = .ok (.iload_n 3, 1) := by decide +kernel
theorem dX7_act_239 : decode cX7_act 239 = .ok (.iconst 1, 1) := by decide +kernel
theorem dX7_act_240 : decode cX7_act 240 = .ok (.iand, 1) := by decide +kernel
theorem dX7_act_241 : decode cX7_act 241 = .ok (.ifCond .ne 14, 3) := by decide +kernel
theorem dX7_act_244 : decode cX7_act 244 = .ok (.aload_n 0, 1) := by decide +kernel
theorem dX7_act_245 : decode cX7_act 245 = .ok (.getfield 63, 3) := by decide +kernel
theorem dX7_act_248 : decode cX7_act 248 = .ok (.iload_n 1, 1) := by decide +kernel
theorem dX7_act_249 : decode cX7_act 249 = .ok (.iaload, 1) := by decide +kernel
theorem dX7_act_250 : decode cX7_act 250 = .ok (.iconst 1, 1) := by decide +kernel
theorem dX7_act_251 : decode cX7_act 251 = .ok (.iadd, 1) := by decide +kernel
theorem dX7_act_252 : decode cX7_act 252 = .ok (.goto 4, 3) := by decide +kernel
theorem dX7_act_255 : decode cX7_act 255 = .ok (.iconst 0, 1) := by decide +kernel
theorem dX7_act_256 : decode cX7_act 256 = .ok (.iastore, 1) := by decide +kernel
theorem dX7_act_257 : decode cX7_act 257 = .ok (.aload_n 0, 1) := by decide +kernel
theorem dX7_act_258 : decode cX7_act 258 = .ok (.getfield 47, 3) := by decide +kernel
theorem dX7_act_261 : decode cX7_act 261 = .ok (.iload_n 1, 1) := by decide +kernel
theorem dX7_act_262 : decode cX7_act 262 = .ok (.aload_n 0, 1) := by decide +kernel
theorem dX7_act_263 : decode cX7_act 263 = .ok (.iload_n 1, 1) := by decide +kernel
theorem dX7_act_264 : decode cX7_act 264 = .ok (.invokevirtual 144, 3) := by decide +kernel
theorem dX7_act_267 : decode cX7_act 267 = .ok (.iastore, 1) := by decide +kernel
theorem dX7_act_268 : decode cX7_act 268 = .ok (.aload_n 0, 1) := by decide +kernel
theorem dX7_act_269 : decode cX7_act 269 = .ok (.getfield 47, 3) := by decide +kernel
theorem dX7_act_272 : decode cX7_act 272 = .ok (.iload_n 1, 1) := by decide +kernel
theorem dX7_act_273 : decode cX7_act 273 = .ok (.iaload, 1) := by decide +kernel
theorem dX7_act_274 : decode cX7_act 274 = .ok (.ifCond .le 17, 3) := by decide +kernel
theorem dX7_act_277 : decode cX7_act 277 = .ok (.aload_n 0, 1) := by decide +kernel
theorem dX7_act_278 : decode cX7_act 278 = .ok (.iload_n 1, 1) := by decide +kernel
theorem dX7_act_279 : decode cX7_act 279 = .ok (.bipush 10, 2) := by decide +kernel
theorem dX7_act_281 : decode cX7_act 281 = .ok (.aload_n 0, 1) := by decide +kernel
theorem dX7_act_282 : decode cX7_act 282 = .ok (.getfield 47, 3) := by decide +kernel
theorem dX7_act_285 : decode cX7_act 285 = .ok (.iload_n 1, 1) := by decide +kernel
theorem dX7_act_286 : decode cX7_act 286 = .ok (.iaload, 1) := by decide +kernel
theorem dX7_act_287 : decode cX7_act 287 = .ok (.iadd, 1) := by decide +kernel
theorem dX7_act_288 : decode cX7_act 288 = .ok (.invokevirtual 120, 3) := by decide +kernel
theorem dX7_act_291 : decode cX7_act 291 = .ok (.return_, 1) := by decide +kernel
theorem dX7_press_0 : decode cX7_press 0 = .ok (.iload_n 2, 1) := by decide +kernel
theorem dX7_press_1 : decode cX7_press 1 = .ok (.ifCond .eq 15, 3) := by decide +kernel
theorem dX7_press_4 : decode cX7_press 4 = .ok (.aload_n 0, 1) := by decide +kernel
theorem dX7_press_5 : decode cX7_press 5 = .ok (.getfield 19, 3) := by decide +kernel
theorem dX7_press_8 : decode cX7_press 8 = .ok (.iload_n 1, 1) := by decide +kernel
theorem dX7_press_9 : decode cX7_press 9 = .ok (.iaload, 1) := by decide +kernel
theorem dX7_press_10 : decode cX7_press 10 = .ok (.bipush 36, 2) := by decide +kernel
theorem dX7_press_12 : decode cX7_press 12 = .ok (.iadd, 1) := by decide +kernel
theorem dX7_press_13 : decode cX7_press 13 = .ok (.goto 12, 3) := by decide +kernel
theorem dX7_press_16 : decode cX7_press 16 = .ok (.aload_n 0, 1) := by decide +kernel
theorem dX7_press_17 : decode cX7_press 17 = .ok (.getfield 19, 3) := by decide +kernel
theorem dX7_press_20 : decode cX7_press 20 = .ok (.iload_n 1, 1) := by decide +kernel
theorem dX7_press_21 : decode cX7_press 21 = .ok (.iaload, 1) := by decide +kernel
theorem dX7_press_22 : decode cX7_press 22 = .ok (.bipush 10, 2) := by decide +kernel
theorem dX7_press_24 : decode cX7_press 24 = .ok (.isub, 1) := by decide +kernel
theorem dX7_press_25 : decode cX7_press 25 = .ok (.istore_n 3, 1) := by decide +kernel
theorem dX7_press_26 : decode cX7_press 26 = .ok (.aload_n 0, 1) := by decide +kernel
theorem dX7_press_27 : decode cX7_press 27 = .ok (.getfield 19, 3) := by decide +kernel
theorem dX7_press_30 : decode cX7_press 30 = .ok (.iload_n 1, 1) := by decide +kernel
theorem dX7_press_31 : decode cX7_press 31 = .ok (.iload_n 3, 1) := by decide +kernel
theorem dX7_press_32 : decode cX7_press 32 = .ok (.sipush 360, 3) := by decide +kernel
theorem dX7_press_35 : decode cX7_press 35 = .ok (.if_icmp .le 9, 3) := by decide +kernel
theorem dX7_press_38 : decode cX7_press 38 = .ok (.sipush 360, 3) := by decide +kernel
theorem dX7_press_41 : decode cX7_press 41 = .ok (.goto 12, 3) := by decide +kernel
theorem dX7_press_44 : decode cX7_press 44 = .ok (.iload_n 3, 1) := by decide +kernel
theorem dX7_press_45 : decode cX7_press 45 = .ok (.ifCond .ge 7, 3) := by decide +kernel
theorem dX7_press_48 : decode cX7_press 48 = .ok (.iconst 0, 1) := by decide +kernel
theorem dX7_press_49 : decode cX7_press 49 = .ok (.goto 4, 3) := by decide +kernel
theorem dX7_press_52 : decode cX7_press 52 = .ok (.iload_n 3, 1) := by decide +kernel
theorem dX7_press_53 : decode cX7_press 53 = .ok (.iastore, 1) := by decide +kernel
theorem dX7_press_54 : decode cX7_press 54 = .ok (.return_, 1) := by decide +kernel
theorem dX7_move_0 : decode cX7_move 0 = .ok (.aload_n 0, 1) := by decide +kernel
theorem dX7_move_1 : decode cX7_move 1 = .ok (.getfield 19, 3) := by decide +kernel
theorem dX7_move_4 : decode cX7_move 4 = .ok (.iload_n 2, 1) := by decide +kernel
theorem dX7_move_5 : decode cX7_move 5 = .ok (.iaload, 1) := by decide +kernel
theorem dX7_move_6 : decode cX7_move 6 = .ok (.sipush 360, 3) := by decide +kernel
theorem dX7_move_9 : decode cX7_move 9 = .ok (.if_icmp .ne 19, 3) := by decide +kernel
theorem dX7_move_12 : decode cX7_move 12 = .ok (.aload_n 0, 1) := by decide +kernel
theorem dX7_move_13 : decode cX7_move 13 = .ok (.getfield 19, 3) := by decide +kernel
theorem dX7_move_16 : decode cX7_move 16 = .ok (.iload_n 3, 1) := by decide +kernel
theorem dX7_move_17 : decode cX7_move 17 = .ok (.iaload, 1) := by decide +kernel
theorem dX7_move_18 : decode cX7_move 18 = .ok (.sipush 360, 3) := by decide +kernel
theorem dX7_move_21 : decode cX7_move 21 = .ok (.if_icmp .eq 7, 3) := by decide +kernel
theorem dX7_move_24 : decode cX7_move 24 = .ok (.iconst 1, 1) := by decide +kernel
theorem dX7_move_25 : decode cX7_move 25 = .ok (.goto 4, 3) := by decide +kernel
theorem dX7_move_28 : decode cX7_move 28 = .ok (.iconst 0, 1) := by decide +kernel
theorem dX7_move_29 : decode cX7_move 29 = .ok (.istore 4, 2) := by decide +kernel
theorem dX7_move_31 : decode cX7_move 31 = .ok (.aload_n 0, 1) := by decide +kernel
theorem dX7_move_32 : decode cX7_move 32 = .ok (.getfield 19, 3) := by decide +kernel
theorem dX7_move_35 : decode cX7_move 35 = .ok (.iload_n 3, 1) := by decide +kernel
theorem dX7_move_36 : decode cX7_move 36 = .ok (.iaload, 1) := by decide +kernel
theorem dX7_move_37 : decode cX7_move 37 = .ok (.sipush 360, 3) := by decide +kernel
theorem dX7_move_40 : decode cX7_move 40 = .ok (.if_icmp .ne 19, 3) := by decide +kernel
theorem dX7_move_43 : decode cX7_move 43 = .ok (.aload_n 0, 1) := by decide +kernel
theorem dX7_move_44 : decode cX7_move 44 = .ok (.getfield 19, 3) := by decide +kernel
theorem dX7_move_47 : decode cX7_move 47 = .ok (.iload_n 2, 1) := by decide +kernel
theorem dX7_move_48 : decode cX7_move 48 = .ok (.iaload, 1) := by decide +kernel
theorem dX7_move_49 : decode cX7_move 49 = .ok (.sipush 360, 3) := by decide +kernel
theorem dX7_move_52 : decode cX7_move 52 = .ok (.if_icmp .eq 7, 3) := by decide +kernel
theorem dX7_move_55 : decode cX7_move 55 = .ok (.iconst 1, 1) := by decide +kernel
theorem dX7_move_56 : decode cX7_move 56 = .ok (.goto 4, 3) := by decide +kernel
theorem dX7_move_59 : decode cX7_move 59 = .ok (.iconst 0, 1) := by decide +kernel
theorem dX7_move_60 : decode cX7_move 60 = .ok (.istore 5, 2) := by decide +kernel
theorem dX7_move_62 : decode cX7_move 62 = .ok (.aload_n 0, 1) := by decide +kernel
theorem dX7_move_63 : decode cX7_move 63 = .ok (.getfield 29, 3) := by decide +kernel
theorem dX7_move_66 : decode cX7_move 66 = .ok (.iload_n 1, 1) := by decide +kernel
theorem dX7_move_67 : decode cX7_move 67 = .ok (.iaload, 1) := by decide +kernel
theorem dX7_move_68 : decode cX7_move 68 = .ok (.iload 4, 2) := by decide +kernel
theorem dX7_move_70 : decode cX7_move 70 = .ok (.ifCond .eq 7, 3) := by decide +kernel
theorem dX7_move_73 : decode cX7_move 73 = .ok (.iconst 1, 1) := by decide +kernel
theorem dX7_move_74 : decode cX7_move 74 = .ok (.goto 4, 3) := by decide +kernel
theorem dX7_move_77 : decode cX7_move 77 = .ok (.iconst 0, 1) := by decide +kernel
theorem dX7_move_78 : decode cX7_move 78 = .ok (.iadd, 1) := by decide +kernel
theorem dX7_move_79 : decode cX7_move 79 = .ok (.iload 5, 2) := by decide +kernel
theorem dX7_move_81 : decode cX7_move 81 = .ok (.ifCond .eq 7, 3) := by decide +kernel
theorem dX7_move_84 : decode cX7_move 84 = .ok (.iconst 1, 1) := by decide +kernel
theorem dX7_move_85 : decode cX7_move 85 = .ok (.goto 4, 3) := by decide +kernel
theorem dX7_move_88 : decode cX7_move 88 = .ok (.iconst 0, 1) := by decide +kernel
theorem dX7_move_89 : decode cX7_move 89 = .ok (.isub, 1) := by decide +kernel
theorem dX7_move_90 : decode cX7_move 90 = .ok (.istore 6, 2) := by decide +kernel
theorem dX7_move_92 : decode cX7_move 92 = .ok (.aload_n 0, 1) := by decide +kernel
theorem dX7_move_93 : decode cX7_move 93 = .ok (.getfield 32, 3) := by decide +kernel
theorem dX7_move_96 : decode cX7_move 96 = .ok (.iload_n 1, 1) := by decide +kernel
theorem dX7_move_97 : decode cX7_move 97 = .ok (.iaload, 1) := by decide +kernel
theorem dX7_move_98 : decode cX7_move 98 = .ok (.ifCond .ne 75, 3) := by decide +kernel
theorem dX7_move_101 : decode cX7_move 101 = .ok (.iload 6, 2) := by decide +kernel
theorem dX7_move_103 : decode cX7_move 103 = .ok (.iconst 0, 1) := by decide +kernel
theorem dX7_move_104 : decode cX7_move 104 = .ok (.aload_n 0, 1) := by decide +kernel
theorem dX7_move_105 : decode cX7_move 105 = .ok (.getfield 26, 3) := by decide +kernel
theorem dX7_move_108 : decode cX7_move 108 = .ok (.iload_n 1, 1) := by decide +kernel
theorem dX7_move_109 : decode cX7_move 109 = .ok (.iaload, 1) := by decide +kernel
theorem dX7_move_110 : decode cX7_move 110 = .ok (.invokestatic 94, 3) := by decide +kernel
theorem dX7_move_113 : decode cX7_move 113 = .ok (.ifCond .eq 60, 3) := by decide +kernel
theorem dX7_move_116 : decode cX7_move 116 = .ok (.iload 6, 2) := by decide +kernel
theorem dX7_move_118 : decode cX7_move 118 = .ok (.aload_n 0, 1) := by decide +kernel
theorem dX7_move_119 : decode cX7_move 119 = .ok (.getfield 29, 3) := by decide +kernel
theorem dX7_move_122 : decode cX7_move 122 = .ok (.iload_n 1, 1) := by decide +kernel
theorem dX7_move_123 : decode cX7_move 123 = .ok (.iaload, 1) := by decide +kernel
theorem dX7_move_124 : decode cX7_move 124 = .ok (.if_icmp .eq 49, 3) := by decide +kernel
theorem dX7_move_127 : decode cX7_move 127 = .ok (.aload_n 0, 1) := by decide +kernel
theorem dX7_move_128 : decode cX7_move 128 = .ok (.getfield 29, 3) := by decide +kernel
theorem dX7_move_131 : decode cX7_move 131 = .ok (.iload_n 1, 1) := by decide +kernel
theorem dX7_move_132 : decode cX7_move 132 = .ok (.iload 6, 2) := by decide +kernel
theorem dX7_move_134 : decode cX7_move 134 = .ok (.iastore, 1) := by decide +kernel
theorem dX7_move_135 : decode cX7_move 135 = .ok (.aload_n 0, 1) := by decide +kernel
theorem dX7_move_136 : decode cX7_move 136 = .ok (.dup, 1) := by decide +kernel
theorem dX7_move_137 : decode cX7_move 137 = .ok (.getfield 147, 3) := by decide +kernel
theorem dX7_move_140 : decode cX7_move 140 = .ok (.iload_n 1, 1) := by decide +kernel
theorem dX7_move_141 : decode cX7_move 141 = .ok (.iconst 2, 1) := by decide +kernel
theorem dX7_move_142 : decode cX7_move 142 = .ok (.if_icmp .le 26, 3) := by decide +kernel
theorem dX7_move_145 : decode cX7_move 145 = .ok (.aload_n 0, 1) := by decide +kernel
theorem dX7_move_146 : decode cX7_move 146 = .ok (.getfield 29, 3) := by decide +kernel
theorem dX7_move_149 : decode cX7_move 149 = .ok (.iload_n 1, 1) := by decide +kernel
theorem dX7_move_150 : decode cX7_move 150 = .ok (.iconst 3, 1) := by decide +kernel
theorem dX7_move_151 : decode cX7_move 151 = .ok (.isub, 1) := by decide +kernel
theorem dX7_move_152 : decode cX7_move 152 = .ok (.iaload, 1) := by decide +kernel
theorem dX7_move_153 : decode cX7_move 153 = .ok (.aload_n 0, 1) := by decide +kernel
theorem dX7_move_154 : decode cX7_move 154 = .ok (.getfield 26, 3) := by decide +kernel
theorem dX7_move_157 : decode cX7_move 157 = .ok (.iload_n 1, 1) := by decide +kernel
theorem dX7_move_158 : decode cX7_move 158 = .ok (.iconst 3, 1) := by decide +kernel
theorem dX7_move_159 : decode cX7_move 159 = .ok (.isub, 1) := by decide +kernel
theorem dX7_move_160 : decode cX7_move 160 = .ok (.iaload, 1) := by decide +kernel
theorem dX7_move_161 : decode cX7_move 161 = .ok (.if_icmp .eq 7, 3) := by decide +kernel
theorem dX7_move_164 : decode cX7_move 164 = .ok (.iconst 1, 1) := by decide +kernel
theorem dX7_move_165 : decode cX7_move 165 = .ok (.goto 4, 3) := by decide +kernel
theorem dX7_move_168 : decode cX7_move 168 = .ok (.iconst 0, 1) := by decide +kernel
theorem dX7_move_169 : decode cX7_move 169 = .ok (.iadd, 1) := by decide +kernel
theorem dX7_move_170 : decode cX7_move 170 = .ok (.putfield 147, 3) := by decide +kernel
theorem dX7_move_173 : decode cX7_move 173 = .ok (.return_, 1) := by decide +kernel
theorem dX7_tick_0 : decode cX7_tick 0 = .ok (.aload_n 0, 1) := by decide +kernel
theorem dX7_tick_1 : decode cX7_tick 1 = .ok (.invokevirtual 150, 3) := by decide +kernel
theorem dX7_tick_4 : decode cX7_tick 4 = .ok (.istore_n 1, 1) := by decide +kernel
theorem dX7_tick_5 : decode cX7_tick 5 = .ok (.aload_n 0, 1) := by decide +kernel
theorem dX7_tick_6 : decode cX7_tick 6 = .ok (.aload_n 0, 1) := by decide +kernel
theorem dX7_tick_7 : decode cX7_tick 7 = .ok (.getfield 153, 3) := by decide +kernel
theorem dX7_tick_10 : decode cX7_tick 10 = .ok (.ifCond .ne 21, 3) := by decide +kernel
theorem dX7_tick_13 : decode cX7_tick 13 = .ok (.iload_n 1, 1) := by decide +kernel
theorem dX7_tick_14 : decode cX7_tick 14 = .ok (.bipush 6, 2) := by decide +kernel
theorem dX7_tick_16 : decode cX7_tick 16 = .ok (.iand, 1) := by decide +kernel
theorem dX7_tick_17 : decode cX7_tick 17 = .ok (.bipush 6, 2) := by decide +kernel
theorem dX7_tick_19 : decode cX7_tick 19 = .ok (.if_icmp .eq 12, 3) := by decide +kernel
theorem dX7_tick_22 : decode cX7_tick 22 = .ok (.iload_n 1, 1) := by decide +kernel
theorem dX7_tick_23 : decode cX7_tick 23 = .ok (.bipush 24, 2) := by decide +kernel
theorem dX7_tick_25 : decode cX7_tick 25 = .ok (.iand, 1) := by decide +kernel
theorem dX7_tick_26 : decode cX7_tick 26 = .ok (.bipush 24, 2) := by decide +kernel
theorem dX7_tick_28 : decode cX7_tick 28 = .ok (.if_icmp .ne 7, 3) := by decide +kernel
theorem dX7_tick_31 : decode cX7_tick 31 = .ok (.iconst 1, 1) := by decide +kernel
theorem dX7_tick_32 : decode cX7_tick 32 = .ok (.goto 4, 3) := by decide +kernel
theorem dX7_tick_35 : decode cX7_tick 35 = .ok (.iconst 0, 1) := by decide +kernel
theorem dX7_tick_36 : decode cX7_tick 36 = .ok (.putfield 153, 3) := by decide +kernel
theorem dX7_tick_39 : decode cX7_tick 39 = .ok (.aload_n 0, 1) := by decide +kernel
theorem dX7_tick_40 : decode cX7_tick 40 = .ok (.dup, 1) := by decide +kernel
theorem dX7_tick_41 : decode cX7_tick 41 = .ok (.getfield 117, 3) := by decide +kernel
theorem dX7_tick_44 : decode cX7_tick 44 = .ok (.iconst 1, 1) := by decide +kernel
theorem dX7_tick_45 : decode cX7_tick 45 = .ok (.iadd, 1) := by decide +kernel
theorem dX7_tick_46 : decode cX7_tick 46 = .ok (.putfield 117, 3) := by decide +kernel
theorem dX7_tick_49 : decode cX7_tick 49 = .ok (.aload_n 0, 1) := by decide +kernel
theorem dX7_tick_50 : decode cX7_tick 50 = .ok (.getfield 101, 3) := by decide +kernel
theorem dX7_tick_53 : decode cX7_tick 53 = .ok (.ifCond .ne 81, 3) := by decide +kernel
theorem dX7_tick_56 : decode cX7_tick 56 = .ok (.aload_n 0, 1) := by decide +kernel
theorem dX7_tick_57 : decode cX7_tick 57 = .ok (.getfield 98, 3) := by decide +kernel
theorem dX7_tick_60 : decode cX7_tick 60 = .ok (.ifCond .ne 28, 3) := by decide +kernel
theorem dX7_tick_63 : decode cX7_tick 63 = .ok (.aload_n 0, 1) := by decide +kernel
theorem dX7_tick_64 : decode cX7_tick 64 = .ok (.aload_n 0, 1) := by decide +kernel
theorem dX7_tick_65 : decode cX7_tick 65 = .ok (.getfield 104, 3) := by decide +kernel
theorem dX7_tick_68 : decode cX7_tick 68 = .ok (.iconst 2, 1) := by decide +kernel
theorem dX7_tick_69 : decode cX7_tick 69 = .ok (.if_icmp .ge 7, 3) := by decide +kernel
theorem dX7_tick_72 : decode cX7_tick 72 = .ok (.iconst 0, 1) := by decide +kernel
theorem dX7_tick_73 : decode cX7_tick 73 = .ok (.goto 9, 3) := by decide +kernel
theorem dX7_tick_76 : decode cX7_tick 76 = .ok (.aload_n 0, 1) := by decide +kernel
theorem dX7_tick_77 : decode cX7_tick 77 = .ok (.getfield 104, 3) := by decide +kernel
theorem dX7_tick_80 : decode cX7_tick 80 = .ok (.iconst 2, 1) := by decide +kernel
theorem dX7_tick_81 : decode cX7_tick 81 = .ok (.isub, 1) := by decide +kernel
theorem dX7_tick_82 : decode cX7_tick 82 = .ok (.putfield 104, 3) := by decide +kernel
theorem dX7_tick_85 : decode cX7_tick 85 = .ok (.goto 49, 3) := by decide +kernel
theorem dX7_tick_88 : decode cX7_tick 88 = .ok (.aload_n 0, 1) := by decide +kernel
theorem dX7_tick_89 : decode cX7_tick 89 = .ok (.getfield 104, 3) := by decide +kernel
theorem dX7_tick_92 : decode cX7_tick 92 = .ok (.bipush 24, 2) := by decide +kernel
theorem dX7_tick_94 : decode cX7_tick 94 = .ok (.if_icmp .ne 16, 3) := by decide +kernel
theorem dX7_tick_97 : decode cX7_tick 97 = .ok (.aload_n 0, 1) := by decide +kernel
theorem dX7_tick_98 : decode cX7_tick 98 = .ok (.dup, 1) := by decide +kernel
theorem dX7_tick_99 : decode cX7_tick 99 = .ok (.getfield 98, 3) := by decide +kernel
theorem dX7_tick_102 : decode cX7_tick 102 = .ok (.iconst 1, 1) := by decide +kernel
theorem dX7_tick_103 : decode cX7_tick 103 = .ok (.isub, 1) := by decide +kernel
theorem dX7_tick_104 : decode cX7_tick 104 = .ok (.putfield 98, 3) := by decide +kernel
theorem dX7_tick_107 : decode cX7_tick 107 = .ok (.goto 27, 3) := by decide +kernel
theorem dX7_tick_110 : decode cX7_tick 110 = .ok (.aload_n 0, 1) := by decide +kernel
theorem dX7_tick_111 : decode cX7_tick 111 = .ok (.aload_n 0, 1) := by decide +kernel
theorem dX7_tick_112 : decode cX7_tick 112 = .ok (.getfield 104, 3) := by decide +kernel
theorem dX7_tick_115 : decode cX7_tick 115 = .ok (.bipush 21, 2) := by decide +kernel
theorem dX7_tick_117 : decode cX7_tick 117 = .ok (.if_icmp .le 8, 3) := by decide +kernel
theorem dX7_tick_120 : decode cX7_tick 120 = .ok (.bipush 24, 2) := by decide +kernel
theorem dX7_tick_122 : decode cX7_tick 122 = .ok (.goto 9, 3) := by decide +kernel
theorem dX7_tick_125 : decode cX7_tick 125 = .ok (.aload_n 0, 1) := by decide +kernel
theorem dX7_tick_126 : decode cX7_tick 126 = .ok (.getfield 104, 3) := by decide +kernel
theorem dX7_tick_129 : decode cX7_tick 129 = .ok (.iconst 3, 1) := by decide +kernel
theorem dX7_tick_130 : decode cX7_tick 130 = .ok (.iadd, 1) := by decide +kernel
theorem dX7_tick_131 : decode cX7_tick 131 = .ok (.putfield 104, 3) := by decide +kernel
theorem dX7_tick_134 : decode cX7_tick 134 = .ok (.aload_n 0, 1) := by decide +kernel
theorem dX7_tick_135 : decode cX7_tick 135 = .ok (.getfield 19, 3) := by decide +kernel
theorem dX7_tick_138 : decode cX7_tick 138 = .ok (.iconst 0, 1) := by decide +kernel
theorem dX7_tick_139 : decode cX7_tick 139 = .ok (.iaload, 1) := by decide +kernel
theorem dX7_tick_140 : decode cX7_tick 140 = .ok (.sipush 360, 3) := by decide +kernel
theorem dX7_tick_143 : decode cX7_tick 143 = .ok (.if_icmp .ne 7, 3) := by decide +kernel
theorem dX7_tick_146 : decode cX7_tick 146 = .ok (.iconst 1, 1) := by decide +kernel
theorem dX7_tick_147 : decode cX7_tick 147 = .ok (.goto 4, 3) := by decide +kernel
theorem dX7_tick_150 : decode cX7_tick 150 = .ok (.iconst 0, 1) := by decide +kernel
theorem dX7_tick_151 : decode cX7_tick 151 = .ok (.istore_n 2, 1) := by decide +kernel
theorem dX7_tick_152 : decode cX7_tick 152 = .ok (.aload_n 0, 1) := by decide +kernel
theorem dX7_tick_153 : decode cX7_tick 153 = .ok (.iconst 0, 1) := by decide +kernel
theorem dX7_tick_154 : decode cX7_tick 154 = .ok (.aload_n 0, 1) := by decide +kernel
theorem dX7_tick_155 : decode cX7_tick 155 = .ok (.getfield 23, 3) := by decide +kernel
theorem dX7_tick_158 : decode cX7_tick 158 = .ok (.iconst 0, 1) := by decide +kernel
theorem dX7_tick_159 : decode cX7_tick 159 = .ok (.iaload, 1) := by decide +kernel
theorem dX7_tick_160 : decode cX7_tick 160 = .ok (.iconst 2, 1) := by decide +kernel
theorem dX7_tick_161 : decode cX7_tick 161 = .ok (.if_icmp .eq 28, 3) := by decide +kernel
theorem dX7_tick_164 : decode cX7_tick 164 = .ok (.aload_n 0, 1) := by decide +kernel
theorem dX7_tick_165 : decode cX7_tick 165 = .ok (.getfield 23, 3) := by decide +kernel
theorem dX7_tick_168 : decode cX7_tick 168 = .ok (.iconst 0, 1) := by decide +kernel
theorem dX7_tick_169 : decode cX7_tick 169 = .ok (.iaload, 1) := by decide +kernel
theorem dX7_tick_170 : decode cX7_tick 170 = .ok (.ifCond .ne 23, 3) := by decide +kernel
theorem dX7_tick_173 : decode cX7_tick 173 = .ok (.iload_n 1, 1) := by decide +kernel
theorem dX7_tick_174 : decode cX7_tick 174 = .ok (.iconst 1, 1) := by decide +kernel
theorem dX7_tick_175 : decode cX7_tick 175 = .ok (.iand, 1) := by decide +kernel
theorem dX7_tick_176 : decode cX7_tick 176 = .ok (.iconst 1, 1) := by decide +kernel
theorem dX7_tick_177 : decode cX7_tick 177 = .ok (.if_icmp .ne 16, 3) := by decide +kernel
theorem dX7_tick_180 : decode cX7_tick 180 = .ok (.aload_n 0, 1) := by decide +kernel
theorem dX7_tick_181 : decode cX7_tick 181 = .ok (.getfield 104, 3) := by decide +kernel
theorem dX7_tick_184 : decode cX7_tick 184 = .ok (.bipush 24, 2) := by decide +kernel
theorem dX7_tick_186 : decode cX7_tick 186 = .ok (.if_icmp .ne 7, 3) := by decide +kernel
theorem dX7_tick_189 : decode cX7_tick 189 = .ok (.iconst 1, 1) := by decide +kernel
theorem dX7_tick_190 : decode cX7_tick 190 = .ok (.goto 4, 3) := by decide +kernel
theorem dX7_tick_193 : decode cX7_tick 193 = .ok (.iconst 0, 1) := by decide +kernel
theorem dX7_tick_194 : decode cX7_tick 194 = .ok (.invokevirtual 157, 3) := by decide +kernel
theorem dX7_tick_197 : decode cX7_tick 197 = .ok (.iconst 1, 1) := by decide +kernel
theorem dX7_tick_198 : decode cX7_tick 198 = .ok (.istore_n 3, 1) := by decide +kernel
theorem dX7_tick_199 : decode cX7_tick 199 = .ok (.iload_n 3, 1) := by decide +kernel
theorem dX7_tick_200 : decode cX7_tick 200 = .ok (.iconst 5, 1) := by decide +kernel
theorem dX7_tick_201 : decode cX7_tick 201 = .ok (.if_icmp .ge 51, 3) := by decide +kernel
theorem dX7_tick_204 : decode cX7_tick 204 = .ok (.aload_n 0, 1) := by decide +kernel
theorem dX7_tick_205 : decode cX7_tick 205 = .ok (.iload_n 3, 1) := by decide +kernel
theorem dX7_tick_206 : decode cX7_tick 206 = .ok (.iload_n 2, 1) := by decide +kernel
theorem dX7_tick_207 : decode cX7_tick 207 = .ok (.ifCond .eq 35, 3) := by decide +kernel
theorem dX7_tick_210 : decode cX7_tick 210 = .ok (.aload_n 0, 1) := by decide +kernel
theorem dX7_tick_211 : decode cX7_tick 211 = .ok (.getfield 23, 3) := by decide +kernel
theorem dX7_tick_214 : decode cX7_tick 214 = .ok (.iload_n 3, 1) := by decide +kernel
theorem dX7_tick_215 : decode cX7_tick 215 = .ok (.iaload, 1) := by decide +kernel
theorem dX7_tick_216 : decode cX7_tick 216 = .ok (.iconst 2, 1) := by decide +kernel
theorem dX7_tick_217 : decode cX7_tick 217 = .ok (.if_icmp .eq 21, 3) := by decide +kernel
theorem dX7_tick_220 : decode cX7_tick 220 = .ok (.aload_n 0, 1) := by decide +kernel
theorem dX7_tick_221 : decode cX7_tick 221 = .ok (.getfield 23, 3) := by decide +kernel
theorem dX7_tick_224 : decode cX7_tick 224 = .ok (.iload_n 3, 1) := by decide +kernel
theorem dX7_tick_225 : decode cX7_tick 225 = .ok (.iaload, 1) := by decide +kernel
theorem dX7_tick_226 : decode cX7_tick 226 = .ok (.ifCond .ne 16, 3) := by decide +kernel
theorem dX7_tick_229 : decode cX7_tick 229 = .ok (.iload_n 1, 1) := by decide +kernel
theorem dX7_tick_230 : decode cX7_tick 230 = .ok (.iload_n 3, 1) := by decide +kernel
theorem dX7_tick_231 : decode cX7_tick 231 = .ok (.ishr, 1) := by decide +kernel
theorem dX7_tick_232 : decode cX7_tick 232 = .ok (.iconst 1, 1) := by decide +kernel
theorem dX7_tick_233 : decode cX7_tick 233 = .ok (.iand, 1) := by decide +kernel
theorem dX7_tick_234 : decode cX7_tick 234 = .ok (.iconst 1, 1) := by decide +kernel
theorem dX7_tick_235 : decode cX7_tick 235 = .ok (.if_icmp .ne 7, 3) := by decide +kernel
theorem dX7_tick_238 : decode cX7_tick 238 = .ok (.iconst 1, 1) := by decide +kernel
theorem dX7_tick_239 : decode cX7_tick 239 = .ok (.goto 4, 3) := by decide +kernel
theorem dX7_tick_242 : decode cX7_tick 242 = .ok (.iconst 0, 1) := by decide +kernel
theorem dX7_tick_243 : decode cX7_tick 243 = .ok (.invokevirtual 157, 3) := by decide +kernel
theorem dX7_tick_246 : decode cX7_tick 246 = .ok (.iinc 3 1, 3) := by decide +kernel
theorem dX7_tick_249 : decode cX7_tick 249 = .ok (.goto (-50), 3) := by decide +kernel
theorem dX7_tick_252 : decode cX7_tick 252 = .ok (.iconst 0, 1) := by decide +kernel
theorem dX7_tick_253 : decode cX7_tick 253 = .ok (.istore_n 3, 1) := by decide +kernel
theorem dX7_tick_254 : decode cX7_tick 254 = .ok (.iload_n 3, 1) := by decide +kernel
theorem dX7_tick_255 : decode cX7_tick 255 = .ok (.iconst 3, 1) := by decide +kernel
theorem dX7_tick_256 : decode cX7_tick 256 = .ok (.if_icmp .ge 16, 3) := by decide +kernel
theorem dX7_tick_259 : decode cX7_tick 259 = .ok (.aload_n 0, 1) := by decide +kernel
theorem dX7_tick_260 : decode cX7_tick 260 = .ok (.iload_n 3, 1) := by decide +kernel
theorem dX7_tick_261 : decode cX7_tick 261 = .ok (.iconst 1, 1) := by decide +kernel
theorem dX7_tick_262 : decode cX7_tick 262 = .ok (.iconst 2, 1) := by decide +kernel
theorem dX7_tick_263 : decode cX7_tick 263 = .ok (.invokevirtual 161, 3) := by decide +kernel
theorem dX7_tick_266 : decode cX7_tick 266 = .ok (.iinc 3 1, 3) := by decide +kernel
theorem dX7_tick_269 : decode cX7_tick 269 = .ok (.goto (-15), 3) := by decide +kernel
theorem dX7_tick_272 : decode cX7_tick 272 = .ok (.iconst 3, 1) := by decide +kernel
theorem dX7_tick_273 : decode cX7_tick 273 = .ok (.istore_n 3, 1) := by decide +kernel
theorem dX7_tick_274 : decode cX7_tick 274 = .ok (.iload_n 3, 1) := by decide +kernel
theorem dX7_tick_275 : decode cX7_tick 275 = .ok (.bipush 6, 2) := by decide +kernel
theorem dX7_tick_277 : decode cX7_tick 277 = .ok (.if_icmp .ge 16, 3) := by decide +kernel
theorem dX7_tick_280 : decode cX7_tick 280 = .ok (.aload_n 0, 1) := by decide +kernel
theorem dX7_tick_281 : decode cX7_tick 281 = .ok (.iload_n 3, 1) := by decide +kernel
theorem dX7_tick_282 : decode cX7_tick 282 = .ok (.iconst 3, 1) := by decide +kernel
theorem dX7_tick_283 : decode cX7_tick 283 = .ok (.iconst 4, 1) := by decide +kernel
theorem dX7_tick_284 : decode cX7_tick 284 = .ok (.invokevirtual 161, 3) := by decide +kernel
theorem dX7_tick_287 : decode cX7_tick 287 = .ok (.iinc 3 1, 3) := by decide +kernel
theorem dX7_tick_290 : decode cX7_tick 290 = .ok (.goto (-16), 3) := by decide +kernel
theorem dX7_tick_293 : decode cX7_tick 293 = .ok (.aload_n 0, 1) := by decide +kernel
theorem dX7_tick_294 : decode cX7_tick 294 = .ok (.invokevirtual 85, 3) := by decide +kernel
theorem dX7_tick_297 : decode cX7_tick 297 = .ok (.aload_n 0, 1) := by decide +kernel
theorem dX7_tick_298 : decode cX7_tick 298 = .ok (.iconst 0, 1) := by decide +kernel
theorem dX7_tick_299 : decode cX7_tick 299 = .ok (.invokevirtual 165, 3) := by decide +kernel
theorem dX7_tick_302 : decode cX7_tick 302 = .ok (.aload_n 0, 1) := by decide +kernel
theorem dX7_tick_303 : decode cX7_tick 303 = .ok (.iconst 1, 1) := by decide +kernel
theorem dX7_tick_304 : decode cX7_tick 304 = .ok (.invokevirtual 165, 3) := by decide +kernel
theorem dX7_tick_307 : decode cX7_tick 307 = .ok (.aload_n 0, 1) := by decide +kernel
theorem dX7_tick_308 : decode cX7_tick 308 = .ok (.iconst 0, 1) := by decide +kernel
theorem dX7_tick_309 : decode cX7_tick 309 = .ok (.putfield 16, 3) := by decide +kernel
theorem dX7_tick_312 : decode cX7_tick 312 = .ok (.iconst 0, 1) := by decide +kernel
theorem dX7_tick_313 : decode cX7_tick 313 = .ok (.istore_n 3, 1) := by decide +kernel
theorem dX7_tick_314 : decode cX7_tick 314 = .ok (.iload_n 3, 1) := by decide +kernel
theorem dX7_tick_315 : decode cX7_tick 315 = .ok (.iconst 2, 1) := by decide +kernel
theorem dX7_tick_316 : decode cX7_tick 316 = .ok (.if_icmp .ge 128, 3) := by decide +kernel
theorem dX7_tick_319 : decode cX7_tick 319 = .ok (.aload_n 0, 1) := by decide +kernel
theorem dX7_tick_320 : decode cX7_tick 320 = .ok (.getfield 54, 3) := by decide +kernel
theorem dX7_tick_323 : decode cX7_tick 323 = .ok (.iload_n 3, 1) := by decide +kernel
theorem dX7_tick_324 : decode cX7_tick 324 = .ok (.iaload, 1) := by decide +kernel
theorem dX7_tick_325 : decode cX7_tick 325 = .ok (.ifCond .ne 113, 3) := by decide +kernel
theorem dX7_tick_328 : decode cX7_tick 328 = .ok (.aload_n 0, 1) := by decide +kernel
theorem dX7_tick_329 : decode cX7_tick 329 = .ok (.dup, 1) := by decide +kernel
theorem dX7_tick_330 : decode cX7_tick 330 = .ok (.getfield 16, 3) := by decide +kernel
theorem dX7_tick_333 : decode cX7_tick 333 = .ok (.aload_n 0, 1) := by decide +kernel
theorem dX7_tick_334 : decode cX7_tick 334 = .ok (.iload_n 3, 1) := by decide +kernel
theorem dX7_tick_335 : decode cX7_tick 335 = .ok (.bipush 9, 2) := by decide +kernel
theorem dX7_tick_337 : decode cX7_tick 337 = .ok (.invokevirtual 127, 3) := by decide +kernel
theorem dX7_tick_340 : decode cX7_tick 340 = .ok (.ifCond .eq 7, 3) := by decide +kernel
theorem dX7_tick_343 : decode cX7_tick 343 = .ok (.iconst 1, 1) := by decide +kernel
theorem dX7_tick_344 : decode cX7_tick 344 = .ok (.goto 4, 3) := by decide +kernel
theorem dX7_tick_347 : decode cX7_tick 347 = .ok (.iconst 0, 1) := by decide +kernel
theorem dX7_tick_348 : decode cX7_tick 348 = .ok (.ior, 1) := by decide +kernel
theorem dX7_tick_349 : decode cX7_tick 349 = .ok (.putfield 16, 3) := by decide +kernel
theorem dX7_tick_352 : decode cX7_tick 352 = .ok (.iconst 0, 1) := by decide +kernel
theorem dX7_tick_353 : decode cX7_tick 353 = .ok (.istore 4, 2) := by decide +kernel
theorem dX7_tick_355 : decode cX7_tick 355 = .ok (.iload 4, 2) := by decide +kernel
theorem dX7_tick_357 : decode cX7_tick 357 = .ok (.iconst 3, 1) := by decide +kernel
theorem dX7_tick_358 : decode cX7_tick 358 = .ok (.if_icmp .ge 57, 3) := by decide +kernel
theorem dX7_tick_361 : decode cX7_tick 361 = .ok (.aload_n 0, 1) := by decide +kernel
theorem dX7_tick_362 : decode cX7_tick 362 = .ok (.dup, 1) := by decide +kernel
theorem dX7_tick_363 : decode cX7_tick 363 = .ok (.getfield 16, 3) := by decide +kernel
theorem dX7_tick_366 : decode cX7_tick 366 = .ok (.aload_n 0, 1) := by decide +kernel
theorem dX7_tick_367 : decode cX7_tick 367 = .ok (.getfield 66, 3) := by decide +kernel
theorem dX7_tick_370 : decode cX7_tick 370 = .ok (.bipush 18, 2) := by decide +kernel
theorem dX7_tick_372 : decode cX7_tick 372 = .ok (.iload_n 3, 1) := by decide +kernel
theorem dX7_tick_373 : decode cX7_tick 373 = .ok (.imul, 1) := by decide +kernel
theorem dX7_tick_374 : decode cX7_tick 374 = .ok (.bipush 9, 2) := by decide +kernel
theorem dX7_tick_376 : decode cX7_tick 376 = .ok (.iadd, 1) := by decide +kernel
theorem dX7_tick_377 : decode cX7_tick 377 = .ok (.iload 4, 2) := by decide +kernel
theorem dX7_tick_379 : decode cX7_tick 379 = .ok (.iadd, 1) := by decide +kernel
theorem dX7_tick_380 : decode cX7_tick 380 = .ok (.iaload, 1) := by decide +kernel
theorem dX7_tick_381 : decode cX7_tick 381 = .ok (.aload_n 0, 1) := by decide +kernel
theorem dX7_tick_382 : decode cX7_tick 382 = .ok (.getfield 66, 3) := by decide +kernel
theorem dX7_tick_385 : decode cX7_tick 385 = .ok (.bipush 18, 2) := by decide +kernel
theorem dX7_tick_387 : decode cX7_tick 387 = .ok (.iload_n 3, 1) := by decide +kernel
theorem dX7_tick_388 : decode cX7_tick 388 = .ok (.imul, 1) := by decide +kernel
theorem dX7_tick_389 : decode cX7_tick 389 = .ok (.bipush 12, 2) := by decide +kernel
theorem dX7_tick_391 : decode cX7_tick 391 = .ok (.iadd, 1) := by decide +kernel
theorem dX7_tick_392 : decode cX7_tick 392 = .ok (.iload 4, 2) := by decide +kernel
theorem dX7_tick_394 : decode cX7_tick 394 = .ok (.iadd, 1) := by decide +kernel
theorem dX7_tick_395 : decode cX7_tick 395 = .ok (.iaload, 1) := by decide +kernel
theorem dX7_tick_396 : decode cX7_tick 396 = .ok (.iadd, 1) := by decide +kernel
theorem dX7_tick_397 : decode cX7_tick 397 = .ok (.ifCond .ne 7, 3) := by decide +kernel
theorem dX7_tick_400 : decode cX7_tick 400 = .ok (.iconst 2, 1) := by decide +kernel
theorem dX7_tick_401 : decode cX7_tick 401 = .ok (.goto 4, 3) := by decide +kernel
theorem dX7_tick_404 : decode cX7_tick 404 = .ok (.iconst 0, 1) := by decide +kernel
theorem dX7_tick_405 : decode cX7_tick 405 = .ok (.ior, 1) := by decide +kernel
theorem dX7_tick_406 : decode cX7_tick 406 = .ok (.putfield 16, 3) := by decide +kernel
theorem dX7_tick_409 : decode cX7_tick 409 = .ok (.iinc 4 1, 3) := by decide +kernel
theorem dX7_tick_412 : decode cX7_tick 412 = .ok (.goto (-57), 3) := by decide +kernel
theorem dX7_tick_415 : decode cX7_tick 415 = .ok (.aload_n 0, 1) := by decide +kernel
theorem dX7_tick_416 : decode cX7_tick 416 = .ok (.dup, 1) := by decide +kernel
theorem dX7_tick_417 : decode cX7_tick 417 = .ok (.getfield 16, 3) := by decide +kernel
theorem dX7_tick_420 : decode cX7_tick 420 = .ok (.aload_n 0, 1) := by decide +kernel
theorem dX7_tick_421 : decode cX7_tick 421 = .ok (.getfield 47, 3) := by decide +kernel
theorem dX7_tick_424 : decode cX7_tick 424 = .ok (.iload_n 3, 1) := by decide +kernel
theorem dX7_tick_425 : decode cX7_tick 425 = .ok (.iaload, 1) := by decide +kernel
theorem dX7_tick_426 : decode cX7_tick 426 = .ok (.ifCond .le 7, 3) := by decide +kernel
theorem dX7_tick_429 : decode cX7_tick 429 = .ok (.iconst 4, 1) := by decide +kernel
theorem dX7_tick_430 : decode cX7_tick 430 = .ok (.goto 4, 3) := by decide +kernel
theorem dX7_tick_433 : decode cX7_tick 433 = .ok (.iconst 0, 1) := by decide +kernel
theorem dX7_tick_434 : decode cX7_tick 434 = .ok (.ior, 1) := by decide +kernel
theorem dX7_tick_435 : decode cX7_tick 435 = .ok (.putfield 16, 3) := by decide +kernel
theorem dX7_tick_438 : decode cX7_tick 438 = .ok (.iinc 3 1, 3) := by decide +kernel
theorem dX7_tick_441 : decode cX7_tick 441 = .ok (.goto (-127), 3) := by decide +kernel
theorem dX7_tick_444 : decode cX7_tick 444 = .ok (.return_, 1) := by decide +kernel
theorem dX7_run_0 : decode cX7_run 0 = .ok (.aload_n 0, 1) := by decide +kernel
theorem dX7_run_1 : decode cX7_run 1 = .ok (.iconst 0, 1) := by decide +kernel
theorem dX7_run_2 : decode cX7_run 2 = .ok (.putfield 91, 3) := by decide +kernel
theorem dX7_run_5 : decode cX7_run 5 = .ok (.iload_n 1, 1) := by decide +kernel
theorem dX7_run_6 : decode cX7_run 6 = .ok (.iconst 1, 1) := by decide +kernel
theorem dX7_run_7 : decode cX7_run 7 = .ok (.sipush 1000, 3) := by decide +kernel
theorem dX7_run_10 : decode cX7_run 10 = .ok (.invokestatic 94, 3) := by decide +kernel
theorem dX7_run_13 : decode cX7_run 13 = .ok (.ifCond .ne 6, 3) := by decide +kernel
theorem dX7_run_16 : decode cX7_run 16 = .ok (.bipush (-2), 2) := by decide +kernel
theorem dX7_run_18 : decode cX7_run 18 = .ok (.ireturn, 1) := by decide +kernel
theorem dX7_run_19 : decode cX7_run 19 = .ok (.iconst 0, 1) := by decide +kernel
theorem dX7_run_20 : decode cX7_run 20 = .ok (.istore_n 2, 1) := by decide +kernel
theorem dX7_run_21 : decode cX7_run 21 = .ok (.iload_n 2, 1) := by decide +kernel
theorem dX7_run_22 : decode cX7_run 22 = .ok (.iload_n 1, 1) := by decide +kernel
theorem dX7_run_23 : decode cX7_run 23 = .ok (.if_icmp .ge 13, 3) := by decide +kernel
theorem dX7_run_26 : decode cX7_run 26 = .ok (.aload_n 0, 1) := by decide +kernel
theorem dX7_run_27 : decode cX7_run 27 = .ok (.invokevirtual 168, 3) := by decide +kernel
theorem dX7_run_30 : decode cX7_run 30 = .ok (.iinc 2 1, 3) := by decide +kernel
theorem dX7_run_33 : decode cX7_run 33 = .ok (.goto (-12), 3) := by decide +kernel
theorem dX7_run_36 : decode cX7_run 36 = .ok (.aload_n 0, 1) := by decide +kernel
theorem dX7_run_37 : decode cX7_run 37 = .ok (.getfield 16, 3) := by decide +kernel
theorem dX7_run_40 : decode cX7_run 40 = .ok (.ireturn, 1) := by decide +kernel
theorem dX7_isBusy_0 : decode cX7_isBusy 0 = .ok (.aload_n 0, 1) := by decide +kernel
theorem dX7_isBusy_1 : decode cX7_isBusy 1 = .ok (.getfield 54, 3) := by decide +kernel
theorem dX7_isBusy_4 : decode cX7_isBusy 4 = .ok (.iload_n 1, 1) := by decide +kernel
theorem dX7_isBusy_5 : decode cX7_isBusy 5 = .ok (.iaload, 1) := by decide +kernel
theorem dX7_isBusy_6 : decode cX7_isBusy 6 = .ok (.ifCond .ne 43, 3) := by decide +kernel
theorem dX7_isBusy_9 : decode cX7_isBusy 9 = .ok (.aload_n 0, 1) := by decide +kernel
theorem dX7_isBusy_10 : decode cX7_isBusy 10 = .ok (.getfield 47, 3) := by decide +kernel
theorem dX7_isBusy_13 : decode cX7_isBusy 13 = .ok (.iload_n 1, 1) := by decide +kernel
theorem dX7_isBusy_14 : decode cX7_isBusy 14 = .ok (.iaload, 1) := by decide +kernel
theorem dX7_isBusy_15 : decode cX7_isBusy 15 = .ok (.ifCond .ne 34, 3) := by decide +kernel
theorem dX7_isBusy_18 : decode cX7_isBusy 18 = .ok (.aload_n 0, 1) := by decide +kernel
theorem dX7_isBusy_19 : decode cX7_isBusy 19 = .ok (.getfield 38, 3) := by decide +kernel
theorem dX7_isBusy_22 : decode cX7_isBusy 22 = .ok (.iload_n 1, 1) := by decide +kernel
theorem dX7_isBusy_23 : decode cX7_isBusy 23 = .ok (.iaload, 1) := by decide +kernel
theorem dX7_isBusy_24 : decode cX7_isBusy 24 = .ok (.ifCond .ne 21, 3) := by decide +kernel
theorem dX7_isBusy_27 : decode cX7_isBusy 27 = .ok (.aload_n 0, 1) := by decide +kernel
theorem dX7_isBusy_28 : decode cX7_isBusy 28 = .ok (.getfield 66, 3) := by decide +kernel
theorem dX7_isBusy_31 : decode cX7_isBusy 31 = .ok (.bipush 18, 2) := by decide +kernel
theorem dX7_isBusy_33 : decode cX7_isBusy 33 = .ok (.iload_n 1, 1) := by decide +kernel
theorem dX7_isBusy_34 : decode cX7_isBusy 34 = .ok (.imul, 1) := by decide +kernel
theorem dX7_isBusy_35 : decode cX7_isBusy 35 = .ok (.iaload, 1) := by decide +kernel
theorem dX7_isBusy_36 : decode cX7_isBusy 36 = .ok (.aload_n 0, 1) := by decide +kernel
theorem dX7_isBusy_37 : decode cX7_isBusy 37 = .ok (.getfield 44, 3) := by decide +kernel
theorem dX7_isBusy_40 : decode cX7_isBusy 40 = .ok (.iload_n 1, 1) := by decide +kernel
theorem dX7_isBusy_41 : decode cX7_isBusy 41 = .ok (.iaload, 1) := by decide +kernel
theorem dX7_isBusy_42 : decode cX7_isBusy 42 = .ok (.if_icmp .eq 7, 3) := by decide +kernel
theorem dX7_isBusy_45 : decode cX7_isBusy 45 = .ok (.iconst 1, 1) := by decide +kernel
theorem dX7_isBusy_46 : decode cX7_isBusy 46 = .ok (.goto 4, 3) := by decide +kernel
theorem dX7_isBusy_49 : decode cX7_isBusy 49 = .ok (.iconst 0, 1) := by decide +kernel
theorem dX7_isBusy_50 : decode cX7_isBusy 50 = .ok (.ireturn, 1) := by decide +kernel
theorem dX7_settle_0 : decode cX7_settle 0 = .ok (.aload_n 0, 1) := by decide +kernel
theorem dX7_settle_1 : decode cX7_settle 1 = .ok (.iconst 0, 1) := by decide +kernel
theorem dX7_settle_2 : decode cX7_settle 2 = .ok (.putfield 91, 3) := by decide +kernel
theorem dX7_settle_5 : decode cX7_settle 5 = .ok (.iload_n 1, 1) := by decide +kernel
theorem dX7_settle_6 : decode cX7_settle 6 = .ok (.iconst 1, 1) := by decide +kernel
theorem dX7_settle_7 : decode cX7_settle 7 = .ok (.sipush 1000, 3) := by decide +kernel
theorem dX7_settle_10 : decode cX7_settle 10 = .ok (.invokestatic 94, 3) := by decide +kernel
theorem dX7_settle_13 : decode cX7_settle 13 = .ok (.ifCond .ne 6, 3) := by decide +kernel
theorem dX7_settle_16 : decode cX7_settle 16 = .ok (.bipush (-2), 2) := by decide +kernel
theorem dX7_settle_18 : decode cX7_settle 18 = .ok (.ireturn, 1) := by decide +kernel
theorem dX7_settle_19 : decode cX7_settle 19 = .ok (.iconst 0, 1) := by decide +kernel
theorem dX7_settle_20 : decode cX7_settle 20 = .ok (.istore_n 2, 1) := by decide +kernel
theorem dX7_settle_21 : decode cX7_settle 21 = .ok (.iload_n 2, 1) := by decide +kernel
theorem dX7_settle_22 : decode cX7_settle 22 = .ok (.iload_n 1, 1) := by decide +kernel
theorem dX7_settle_23 : decode cX7_settle 23 = .ok (.if_icmp .ge 29, 3) := by decide +kernel
theorem dX7_settle_26 : decode cX7_settle 26 = .ok (.aload_n 0, 1) := by decide +kernel
theorem dX7_settle_27 : decode cX7_settle 27 = .ok (.iconst 0, 1) := by decide +kernel
theorem dX7_settle_28 : decode cX7_settle 28 = .ok (.invokevirtual 171, 3) := by decide +kernel
theorem dX7_settle_31 : decode cX7_settle 31 = .ok (.ifCond .ne 11, 3) := by decide +kernel
theorem dX7_settle_34 : decode cX7_settle 34 = .ok (.aload_n 0, 1) := by decide +kernel
theorem dX7_settle_35 : decode cX7_settle 35 = .ok (.iconst 1, 1) := by decide +kernel
theorem dX7_settle_36 : decode cX7_settle 36 = .ok (.invokevirtual 171, 3) := by decide +kernel
theorem dX7_settle_39 : decode cX7_settle 39 = .ok (.ifCond .eq 13, 3) := by decide +kernel
theorem dX7_settle_42 : decode cX7_settle 42 = .ok (.aload_n 0, 1) := by decide +kernel
theorem dX7_settle_43 : decode cX7_settle 43 = .ok (.invokevirtual 168, 3) := by decide +kernel
theorem dX7_settle_46 : decode cX7_settle 46 = .ok (.iinc 2 1, 3) := by decide +kernel
theorem dX7_settle_49 : decode cX7_settle 49 = .ok (.goto (-28), 3) := by decide +kernel
theorem dX7_settle_52 : decode cX7_settle 52 = .ok (.iload_n 2, 1) := by decide +kernel
theorem dX7_settle_53 : decode cX7_settle 53 = .ok (.ireturn, 1) := by decide +kernel
theorem dX7_plant_0 : decode cX7_plant 0 = .ok (.aload_n 0, 1) := by decide +kernel
theorem dX7_plant_1 : decode cX7_plant 1 = .ok (.iconst 0, 1) := by decide +kernel
theorem dX7_plant_2 : decode cX7_plant 2 = .ok (.putfield 91, 3) := by decide +kernel
theorem dX7_plant_5 : decode cX7_plant 5 = .ok (.iload_n 1, 1) := by decide +kernel
theorem dX7_plant_6 : decode cX7_plant 6 = .ok (.iconst 0, 1) := by decide +kernel
theorem dX7_plant_7 : decode cX7_plant 7 = .ok (.bipush 17, 2) := by decide +kernel
theorem dX7_plant_9 : decode cX7_plant 9 = .ok (.invokestatic 94, 3) := by decide +kernel
theorem dX7_plant_12 : decode cX7_plant 12 = .ok (.ifCond .ne 6, 3) := by decide +kernel
theorem dX7_plant_15 : decode cX7_plant 15 = .ok (.bipush (-2), 2) := by decide +kernel
theorem dX7_plant_17 : decode cX7_plant 17 = .ok (.ireturn, 1) := by decide +kernel
theorem dX7_plant_18 : decode cX7_plant 18 = .ok (.iload_n 1, 1) := by decide +kernel
theorem dX7_plant_19 : decode cX7_plant 19 = .ok (.bipush 11, 2) := by decide +kernel
theorem dX7_plant_21 : decode cX7_plant 21 = .ok (.if_icmp .ge 28, 3) := by decide +kernel
theorem dX7_plant_24 : decode cX7_plant 24 = .ok (.iload_n 1, 1) := by decide +kernel
theorem dX7_plant_25 : decode cX7_plant 25 = .ok (.bipush 6, 2) := by decide +kernel
theorem dX7_plant_27 : decode cX7_plant 27 = .ok (.if_icmp .ge 12, 3) := by decide +kernel
theorem dX7_plant_30 : decode cX7_plant 30 = .ok (.aload_n 0, 1) := by decide +kernel
theorem dX7_plant_31 : decode cX7_plant 31 = .ok (.getfield 29, 3) := by decide +kernel
theorem dX7_plant_34 : decode cX7_plant 34 = .ok (.iload_n 1, 1) := by decide +kernel
theorem dX7_plant_35 : decode cX7_plant 35 = .ok (.iaload, 1) := by decide +kernel
theorem dX7_plant_36 : decode cX7_plant 36 = .ok (.goto 12, 3) := by decide +kernel
theorem dX7_plant_39 : decode cX7_plant 39 = .ok (.aload_n 0, 1) := by decide +kernel
theorem dX7_plant_40 : decode cX7_plant 40 = .ok (.getfield 19, 3) := by decide +kernel
theorem dX7_plant_43 : decode cX7_plant 43 = .ok (.iload_n 1, 1) := by decide +kernel
theorem dX7_plant_44 : decode cX7_plant 44 = .ok (.bipush 6, 2) := by decide +kernel
theorem dX7_plant_46 : decode cX7_plant 46 = .ok (.isub, 1) := by decide +kernel
theorem dX7_plant_47 : decode cX7_plant 47 = .ok (.iaload, 1) := by decide +kernel
theorem dX7_plant_48 : decode cX7_plant 48 = .ok (.ireturn, 1) := by decide +kernel
theorem dX7_plant_49 : decode cX7_plant 49 = .ok (.iload_n 1, 1) := by decide +kernel
theorem dX7_plant_50 : decode cX7_plant 50 = .ok (.tableswitch 68 11 16 #[38, 43, 48, 53, 58, 63], 38) := by decide +kernel
theorem dX7_plant_88 : decode cX7_plant 88 = .ok (.aload_n 0, 1) := by decide +kernel
theorem dX7_plant_89 : decode cX7_plant 89 = .ok (.getfield 104, 3) := by decide +kernel
theorem dX7_plant_92 : decode cX7_plant 92 = .ok (.ireturn, 1) := by decide +kernel
theorem dX7_plant_93 : decode cX7_plant 93 = .ok (.aload_n 0, 1) := by decide +kernel
theorem dX7_plant_94 : decode cX7_plant 94 = .ok (.getfield 98, 3) := by decide +kernel
theorem dX7_plant_97 : decode cX7_plant 97 = .ok (.ireturn, 1) := by decide +kernel
theorem dX7_plant_98 : decode cX7_plant 98 = .ok (.aload_n 0, 1) := by decide +kernel
theorem dX7_plant_99 : decode cX7_plant 99 = .ok (.getfield 7, 3) := by decide +kernel
theorem dX7_plant_102 : decode cX7_plant 102 = .ok (.ireturn, 1) := by decide +kernel
theorem dX7_plant_103 : decode cX7_plant 103 = .ok (.aload_n 0, 1) := by decide +kernel
theorem dX7_plant_104 : decode cX7_plant 104 = .ok (.getfield 13, 3) := by decide +kernel
theorem dX7_plant_107 : decode cX7_plant 107 = .ok (.ireturn, 1) := by decide +kernel
theorem dX7_plant_108 : decode cX7_plant 108 = .ok (.aload_n 0, 1) := by decide +kernel
theorem dX7_plant_109 : decode cX7_plant 109 = .ok (.getfield 117, 3) := by decide +kernel
theorem dX7_plant_112 : decode cX7_plant 112 = .ok (.ireturn, 1) := by decide +kernel
theorem dX7_plant_113 : decode cX7_plant 113 = .ok (.aload_n 0, 1) := by decide +kernel
theorem dX7_plant_114 : decode cX7_plant 114 = .ok (.getfield 147, 3) := by decide +kernel
theorem dX7_plant_117 : decode cX7_plant 117 = .ok (.ireturn, 1) := by decide +kernel
theorem dX7_plant_118 : decode cX7_plant 118 = .ok (.aload_n 0, 1) := by decide +kernel
theorem dX7_plant_119 : decode cX7_plant 119 = .ok (.invokevirtual 150, 3) := by decide +kernel
theorem dX7_plant_122 : decode cX7_plant 122 = .ok (.ireturn, 1) := by decide +kernel
theorem dX7_about_0 : decode cX7_about 0 = .ok (.aload_n 0, 1) := by decide +kernel
theorem dX7_about_1 : decode cX7_about 1 = .ok (.iconst 0, 1) := by decide +kernel
theorem dX7_about_2 : decode cX7_about 2 = .ok (.putfield 91, 3) := by decide +kernel
theorem dX7_about_5 : decode cX7_about 5 = .ok (.iload_n 1, 1) := by decide +kernel
theorem dX7_about_6 : decode cX7_about 6 = .ok (.iconst 0, 1) := by decide +kernel
theorem dX7_about_7 : decode cX7_about 7 = .ok (.iconst 1, 1) := by decide +kernel
theorem dX7_about_8 : decode cX7_about 8 = .ok (.invokestatic 94, 3) := by decide +kernel
theorem dX7_about_11 : decode cX7_about 11 = .ok (.ifCond .eq 13, 3) := by decide +kernel
theorem dX7_about_14 : decode cX7_about 14 = .ok (.iload_n 2, 1) := by decide +kernel
theorem dX7_about_15 : decode cX7_about 15 = .ok (.iconst 0, 1) := by decide +kernel
theorem dX7_about_16 : decode cX7_about 16 = .ok (.bipush 6, 2) := by decide +kernel
theorem dX7_about_18 : decode cX7_about 18 = .ok (.invokestatic 94, 3) := by decide +kernel
theorem dX7_about_21 : decode cX7_about 21 = .ok (.ifCond .ne 6, 3) := by decide +kernel
theorem dX7_about_24 : decode cX7_about 24 = .ok (.bipush (-2), 2) := by decide +kernel
theorem dX7_about_26 : decode cX7_about 26 = .ok (.ireturn, 1) := by decide +kernel
theorem dX7_about_27 : decode cX7_about 27 = .ok (.iload_n 2, 1) := by decide +kernel
theorem dX7_about_28 : decode cX7_about 28 = .ok (.tableswitch 89 0 5 #[40, 47, 54, 61, 67, 74], 40) := by decide +kernel
theorem dX7_about_68 : decode cX7_about 68 = .ok (.aload_n 0, 1) := by decide +kernel
theorem dX7_about_69 : decode cX7_about 69 = .ok (.getfield 38, 3) := by decide +kernel
theorem dX7_about_72 : decode cX7_about 72 = .ok (.iload_n 1, 1) := by decide +kernel
theorem dX7_about_73 : decode cX7_about 73 = .ok (.iaload, 1) := by decide +kernel
theorem dX7_about_74 : decode cX7_about 74 = .ok (.ireturn, 1) := by decide +kernel
theorem dX7_about_75 : decode cX7_about 75 = .ok (.aload_n 0, 1) := by decide +kernel
theorem dX7_about_76 : decode cX7_about 76 = .ok (.getfield 41, 3) := by decide +kernel
theorem dX7_about_79 : decode cX7_about 79 = .ok (.iload_n 1, 1) := by decide +kernel
theorem dX7_about_80 : decode cX7_about 80 = .ok (.iaload, 1) := by decide +kernel
theorem dX7_about_81 : decode cX7_about 81 = .ok (.ireturn, 1) := by decide +kernel
theorem dX7_about_82 : decode cX7_about 82 = .ok (.aload_n 0, 1) := by decide +kernel
theorem dX7_about_83 : decode cX7_about 83 = .ok (.getfield 44, 3) := by decide +kernel
theorem dX7_about_86 : decode cX7_about 86 = .ok (.iload_n 1, 1) := by decide +kernel
theorem dX7_about_87 : decode cX7_about 87 = .ok (.iaload, 1) := by decide +kernel
theorem dX7_about_88 : decode cX7_about 88 = .ok (.ireturn, 1) := by decide +kernel
theorem dX7_about_89 : decode cX7_about 89 = .ok (.aload_n 0, 1) := by decide +kernel
theorem dX7_about_90 : decode cX7_about 90 = .ok (.iload_n 1, 1) := by decide +kernel
theorem dX7_about_91 : decode cX7_about 91 = .ok (.invokevirtual 111, 3) := by decide +kernel
theorem dX7_about_94 : decode cX7_about 94 = .ok (.ireturn, 1) := by decide +kernel
theorem dX7_about_95 : decode cX7_about 95 = .ok (.aload_n 0, 1) := by decide +kernel
theorem dX7_about_96 : decode cX7_about 96 = .ok (.getfield 47, 3) := by decide +kernel
theorem dX7_about_99 : decode cX7_about 99 = .ok (.iload_n 1, 1) := by decide +kernel
theorem dX7_about_100 : decode cX7_about 100 = .ok (.iaload, 1) := by decide +kernel
theorem dX7_about_101 : decode cX7_about 101 = .ok (.ireturn, 1) := by decide +kernel
theorem dX7_about_102 : decode cX7_about 102 = .ok (.aload_n 0, 1) := by decide +kernel
theorem dX7_about_103 : decode cX7_about 103 = .ok (.getfield 50, 3) := by decide +kernel
theorem dX7_about_106 : decode cX7_about 106 = .ok (.iload_n 1, 1) := by decide +kernel
theorem dX7_about_107 : decode cX7_about 107 = .ok (.baload, 1) := by decide +kernel
theorem dX7_about_108 : decode cX7_about 108 = .ok (.ifCond .eq 7, 3) := by decide +kernel
theorem dX7_about_111 : decode cX7_about 111 = .ok (.iconst 1, 1) := by decide +kernel
theorem dX7_about_112 : decode cX7_about 112 = .ok (.goto 4, 3) := by decide +kernel
theorem dX7_about_115 : decode cX7_about 115 = .ok (.iconst 0, 1) := by decide +kernel
theorem dX7_about_116 : decode cX7_about 116 = .ok (.ireturn, 1) := by decide +kernel
theorem dX7_about_117 : decode cX7_about 117 = .ok (.aload_n 0, 1) := by decide +kernel
theorem dX7_about_118 : decode cX7_about 118 = .ok (.getfield 54, 3) := by decide +kernel
theorem dX7_about_121 : decode cX7_about 121 = .ok (.iload_n 1, 1) := by decide +kernel
theorem dX7_about_122 : decode cX7_about 122 = .ok (.iaload, 1) := by decide +kernel
theorem dX7_about_123 : decode cX7_about 123 = .ok (.ireturn, 1) := by decide +kernel
theorem dX7_sees_0 : decode cX7_sees 0 = .ok (.aload_n 0, 1) := by decide +kernel
theorem dX7_sees_1 : decode cX7_sees 1 = .ok (.iconst 0, 1) := by decide +kernel
theorem dX7_sees_2 : decode cX7_sees 2 = .ok (.putfield 91, 3) := by decide +kernel
theorem dX7_sees_5 : decode cX7_sees 5 = .ok (.iload_n 1, 1) := by decide +kernel
theorem dX7_sees_6 : decode cX7_sees 6 = .ok (.iconst 0, 1) := by decide +kernel
theorem dX7_sees_7 : decode cX7_sees 7 = .ok (.iconst 1, 1) := by decide +kernel
theorem dX7_sees_8 : decode cX7_sees 8 = .ok (.invokestatic 94, 3) := by decide +kernel
theorem dX7_sees_11 : decode cX7_sees 11 = .ok (.ifCond .eq 22, 3) := by decide +kernel
theorem dX7_sees_14 : decode cX7_sees 14 = .ok (.iload_n 2, 1) := by decide +kernel
theorem dX7_sees_15 : decode cX7_sees 15 = .ok (.iconst 0, 1) := by decide +kernel
theorem dX7_sees_16 : decode cX7_sees 16 = .ok (.bipush 17, 2) := by decide +kernel
theorem dX7_sees_18 : decode cX7_sees 18 = .ok (.invokestatic 94, 3) := by decide +kernel
theorem dX7_sees_21 : decode cX7_sees 21 = .ok (.ifCond .eq 12, 3) := by decide +kernel
theorem dX7_sees_24 : decode cX7_sees 24 = .ok (.iload_n 3, 1) := by decide +kernel
theorem dX7_sees_25 : decode cX7_sees 25 = .ok (.iconst 0, 1) := by decide +kernel
theorem dX7_sees_26 : decode cX7_sees 26 = .ok (.iconst 1, 1) := by decide +kernel
theorem dX7_sees_27 : decode cX7_sees 27 = .ok (.invokestatic 94, 3) := by decide +kernel
theorem dX7_sees_30 : decode cX7_sees 30 = .ok (.ifCond .ne 6, 3) := by decide +kernel
theorem dX7_sees_33 : decode cX7_sees 33 = .ok (.bipush (-2), 2) := by decide +kernel
theorem dX7_sees_35 : decode cX7_sees 35 = .ok (.ireturn, 1) := by decide +kernel
theorem dX7_sees_36 : decode cX7_sees 36 = .ok (.iload_n 3, 1) := by decide +kernel
theorem dX7_sees_37 : decode cX7_sees 37 = .ok (.ifCond .ne 17, 3) := by decide +kernel
theorem dX7_sees_40 : decode cX7_sees 40 = .ok (.aload_n 0, 1) := by decide +kernel
theorem dX7_sees_41 : decode cX7_sees 41 = .ok (.getfield 66, 3) := by decide +kernel
theorem dX7_sees_44 : decode cX7_sees 44 = .ok (.bipush 18, 2) := by decide +kernel
theorem dX7_sees_46 : decode cX7_sees 46 = .ok (.iload_n 1, 1) := by decide +kernel
theorem dX7_sees_47 : decode cX7_sees 47 = .ok (.imul, 1) := by decide +kernel
theorem dX7_sees_48 : decode cX7_sees 48 = .ok (.iload_n 2, 1) := by decide +kernel
theorem dX7_sees_49 : decode cX7_sees 49 = .ok (.iadd, 1) := by decide +kernel
theorem dX7_sees_50 : decode cX7_sees 50 = .ok (.iaload, 1) := by decide +kernel
theorem dX7_sees_51 : decode cX7_sees 51 = .ok (.goto 14, 3) := by decide +kernel
theorem dX7_sees_54 : decode cX7_sees 54 = .ok (.aload_n 0, 1) := by decide +kernel
theorem dX7_sees_55 : decode cX7_sees 55 = .ok (.getfield 69, 3) := by decide +kernel
theorem dX7_sees_58 : decode cX7_sees 58 = .ok (.bipush 18, 2) := by decide +kernel
theorem dX7_sees_60 : decode cX7_sees 60 = .ok (.iload_n 1, 1) := by decide +kernel
theorem dX7_sees_61 : decode cX7_sees 61 = .ok (.imul, 1) := by decide +kernel
theorem dX7_sees_62 : decode cX7_sees 62 = .ok (.iload_n 2, 1) := by decide +kernel
theorem dX7_sees_63 : decode cX7_sees 63 = .ok (.iadd, 1) := by decide +kernel
theorem dX7_sees_64 : decode cX7_sees 64 = .ok (.iaload, 1) := by decide +kernel
theorem dX7_sees_65 : decode cX7_sees 65 = .ok (.ireturn, 1) := by decide +kernel
theorem dX7_tells_0 : decode cX7_tells 0 = .ok (.aload_n 0, 1) := by decide +kernel
theorem dX7_tells_1 : decode cX7_tells 1 = .ok (.iconst 0, 1) := by decide +kernel
theorem dX7_tells_2 : decode cX7_tells 2 = .ok (.putfield 91, 3) := by decide +kernel
theorem dX7_tells_5 : decode cX7_tells 5 = .ok (.iload_n 1, 1) := by decide +kernel
theorem dX7_tells_6 : decode cX7_tells 6 = .ok (.iconst 0, 1) := by decide +kernel
theorem dX7_tells_7 : decode cX7_tells 7 = .ok (.bipush 17, 2) := by decide +kernel
theorem dX7_tells_9 : decode cX7_tells 9 = .ok (.invokestatic 94, 3) := by decide +kernel
theorem dX7_tells_12 : decode cX7_tells 12 = .ok (.ifCond .eq 21, 3) := by decide +kernel
theorem dX7_tells_15 : decode cX7_tells 15 = .ok (.iload_n 2, 1) := by decide +kernel
theorem dX7_tells_16 : decode cX7_tells 16 = .ok (.iconst 0, 1) := by decide +kernel
theorem dX7_tells_17 : decode cX7_tells 17 = .ok (.iconst 2, 1) := by decide +kernel
theorem dX7_tells_18 : decode cX7_tells 18 = .ok (.invokestatic 94, 3) := by decide +kernel
theorem dX7_tells_21 : decode cX7_tells 21 = .ok (.ifCond .eq 12, 3) := by decide +kernel
theorem dX7_tells_24 : decode cX7_tells 24 = .ok (.aload_n 0, 1) := by decide +kernel
theorem dX7_tells_25 : decode cX7_tells 25 = .ok (.iload_n 1, 1) := by decide +kernel
theorem dX7_tells_26 : decode cX7_tells 26 = .ok (.iload_n 2, 1) := by decide +kernel
theorem dX7_tells_27 : decode cX7_tells 27 = .ok (.invokevirtual 107, 3) := by decide +kernel
theorem dX7_tells_30 : decode cX7_tells 30 = .ok (.goto 5, 3) := by decide +kernel
theorem dX7_tells_33 : decode cX7_tells 33 = .ok (.bipush (-2), 2) := by decide +kernel
theorem dX7_tells_35 : decode cX7_tells 35 = .ok (.ireturn, 1) := by decide +kernel
theorem dX7_lights_0 : decode cX7_lights 0 = .ok (.aload_n 0, 1) := by decide +kernel
theorem dX7_lights_1 : decode cX7_lights 1 = .ok (.iconst 0, 1) := by decide +kernel
theorem dX7_lights_2 : decode cX7_lights 2 = .ok (.putfield 91, 3) := by decide +kernel
theorem dX7_lights_5 : decode cX7_lights 5 = .ok (.aload_n 0, 1) := by decide +kernel
theorem dX7_lights_6 : decode cX7_lights 6 = .ok (.getfield 16, 3) := by decide +kernel
theorem dX7_lights_9 : decode cX7_lights 9 = .ok (.ireturn, 1) := by decide +kernel
theorem dX7_log_0 : decode cX7_log 0 = .ok (.aload_n 0, 1) := by decide +kernel
theorem dX7_log_1 : decode cX7_log 1 = .ok (.iconst 0, 1) := by decide +kernel
theorem dX7_log_2 : decode cX7_log 2 = .ok (.putfield 91, 3) := by decide +kernel
theorem dX7_log_5 : decode cX7_log 5 = .ok (.iload_n 2, 1) := by decide +kernel
theorem dX7_log_6 : decode cX7_log 6 = .ok (.iconst 0, 1) := by decide +kernel
theorem dX7_log_7 : decode cX7_log 7 = .ok (.iconst 2, 1) := by decide +kernel
theorem dX7_log_8 : decode cX7_log 8 = .ok (.invokestatic 94, 3) := by decide +kernel
theorem dX7_log_11 : decode cX7_log 11 = .ok (.ifCond .ne 6, 3) := by decide +kernel
theorem dX7_log_14 : decode cX7_log 14 = .ok (.bipush (-2), 2) := by decide +kernel
theorem dX7_log_16 : decode cX7_log 16 = .ok (.ireturn, 1) := by decide +kernel
theorem dX7_log_17 : decode cX7_log 17 = .ok (.iload_n 1, 1) := by decide +kernel
theorem dX7_log_18 : decode cX7_log 18 = .ok (.ifCond .lt 22, 3) := by decide +kernel
theorem dX7_log_21 : decode cX7_log 21 = .ok (.iload_n 1, 1) := by decide +kernel
theorem dX7_log_22 : decode cX7_log 22 = .ok (.aload_n 0, 1) := by decide +kernel
theorem dX7_log_23 : decode cX7_log 23 = .ok (.getfield 114, 3) := by decide +kernel
theorem dX7_log_26 : decode cX7_log 26 = .ok (.if_icmp .ge 14, 3) := by decide +kernel
theorem dX7_log_29 : decode cX7_log 29 = .ok (.iload_n 1, 1) := by decide +kernel
theorem dX7_log_30 : decode cX7_log 30 = .ok (.aload_n 0, 1) := by decide +kernel
theorem dX7_log_31 : decode cX7_log 31 = .ok (.getfield 114, 3) := by decide +kernel
theorem dX7_log_34 : decode cX7_log 34 = .ok (.bipush 64, 2) := by decide +kernel
theorem dX7_log_36 : decode cX7_log 36 = .ok (.isub, 1) := by decide +kernel
theorem dX7_log_37 : decode cX7_log 37 = .ok (.if_icmp .ge 7, 3) := by decide +kernel
theorem dX7_log_40 : decode cX7_log 40 = .ok (.iconst (-1), 1) := by decide +kernel
theorem dX7_log_41 : decode cX7_log 41 = .ok (.goto 16, 3) := by decide +kernel
theorem dX7_log_44 : decode cX7_log 44 = .ok (.aload_n 0, 1) := by decide +kernel
theorem dX7_log_45 : decode cX7_log 45 = .ok (.getfield 78, 3) := by decide +kernel
theorem dX7_log_48 : decode cX7_log 48 = .ok (.iconst 3, 1) := by decide +kernel
theorem dX7_log_49 : decode cX7_log 49 = .ok (.iload_n 1, 1) := by decide +kernel
theorem dX7_log_50 : decode cX7_log 50 = .ok (.bipush 64, 2) := by decide +kernel
theorem dX7_log_52 : decode cX7_log 52 = .ok (.irem, 1) := by decide +kernel
theorem dX7_log_53 : decode cX7_log 53 = .ok (.imul, 1) := by decide +kernel
theorem dX7_log_54 : decode cX7_log 54 = .ok (.iload_n 2, 1) := by decide +kernel
theorem dX7_log_55 : decode cX7_log 55 = .ok (.iadd, 1) := by decide +kernel
theorem dX7_log_56 : decode cX7_log 56 = .ok (.iaload, 1) := by decide +kernel
theorem dX7_log_57 : decode cX7_log 57 = .ok (.ireturn, 1) := by decide +kernel
theorem dX7_logged_0 : decode cX7_logged 0 = .ok (.aload_n 0, 1) := by decide +kernel
theorem dX7_logged_1 : decode cX7_logged 1 = .ok (.iconst 0, 1) := by decide +kernel
theorem dX7_logged_2 : decode cX7_logged 2 = .ok (.putfield 91, 3) := by decide +kernel
theorem dX7_logged_5 : decode cX7_logged 5 = .ok (.aload_n 0, 1) := by decide +kernel
theorem dX7_logged_6 : decode cX7_logged 6 = .ok (.getfield 114, 3) := by decide +kernel
theorem dX7_logged_9 : decode cX7_logged 9 = .ok (.ireturn, 1) := by decide +kernel
theorem dX7_bound_0 : decode cX7_bound 0 = .ok (.aload_n 0, 1) := by decide +kernel
theorem dX7_bound_1 : decode cX7_bound 1 = .ok (.iconst 0, 1) := by decide +kernel
theorem dX7_bound_2 : decode cX7_bound 2 = .ok (.putfield 91, 3) := by decide +kernel
theorem dX7_bound_5 : decode cX7_bound 5 = .ok (.aload_n 0, 1) := by decide +kernel
theorem dX7_bound_6 : decode cX7_bound 6 = .ok (.getfield 26, 3) := by decide +kernel
theorem dX7_bound_9 : decode cX7_bound 9 = .ok (.iconst 0, 1) := by decide +kernel
theorem dX7_bound_10 : decode cX7_bound 10 = .ok (.iaload, 1) := by decide +kernel
theorem dX7_bound_11 : decode cX7_bound 11 = .ok (.aload_n 0, 1) := by decide +kernel
theorem dX7_bound_12 : decode cX7_bound 12 = .ok (.getfield 26, 3) := by decide +kernel
theorem dX7_bound_15 : decode cX7_bound 15 = .ok (.iconst 1, 1) := by decide +kernel
theorem dX7_bound_16 : decode cX7_bound 16 = .ok (.iaload, 1) := by decide +kernel
theorem dX7_bound_17 : decode cX7_bound 17 = .ok (.if_icmp .le 12, 3) := by decide +kernel
theorem dX7_bound_20 : decode cX7_bound 20 = .ok (.aload_n 0, 1) := by decide +kernel
theorem dX7_bound_21 : decode cX7_bound 21 = .ok (.getfield 26, 3) := by decide +kernel
theorem dX7_bound_24 : decode cX7_bound 24 = .ok (.iconst 0, 1) := by decide +kernel
theorem dX7_bound_25 : decode cX7_bound 25 = .ok (.iaload, 1) := by decide +kernel
theorem dX7_bound_26 : decode cX7_bound 26 = .ok (.goto 9, 3) := by decide +kernel
theorem dX7_bound_29 : decode cX7_bound 29 = .ok (.aload_n 0, 1) := by decide +kernel
theorem dX7_bound_30 : decode cX7_bound 30 = .ok (.getfield 26, 3) := by decide +kernel
theorem dX7_bound_33 : decode cX7_bound 33 = .ok (.iconst 1, 1) := by decide +kernel
theorem dX7_bound_34 : decode cX7_bound 34 = .ok (.iaload, 1) := by decide +kernel
theorem dX7_bound_35 : decode cX7_bound 35 = .ok (.istore_n 1, 1) := by decide +kernel
theorem dX7_bound_36 : decode cX7_bound 36 = .ok (.bipush 80, 2) := by decide +kernel
theorem dX7_bound_38 : decode cX7_bound 38 = .ok (.iconst 2, 1) := by decide +kernel
theorem dX7_bound_39 : decode cX7_bound 39 = .ok (.iload_n 1, 1) := by decide +kernel
theorem dX7_bound_40 : decode cX7_bound 40 = .ok (.imul, 1) := by decide +kernel
theorem dX7_bound_41 : decode cX7_bound 41 = .ok (.iadd, 1) := by decide +kernel
theorem dX7_bound_42 : decode cX7_bound 42 = .ok (.aload_n 0, 1) := by decide +kernel
theorem dX7_bound_43 : decode cX7_bound 43 = .ok (.getfield 26, 3) := by decide +kernel
theorem dX7_bound_46 : decode cX7_bound 46 = .ok (.iconst 3, 1) := by decide +kernel
theorem dX7_bound_47 : decode cX7_bound 47 = .ok (.iaload, 1) := by decide +kernel
theorem dX7_bound_48 : decode cX7_bound 48 = .ok (.aload_n 0, 1) := by decide +kernel
theorem dX7_bound_49 : decode cX7_bound 49 = .ok (.getfield 26, 3) := by decide +kernel
theorem dX7_bound_52 : decode cX7_bound 52 = .ok (.iconst 4, 1) := by decide +kernel
theorem dX7_bound_53 : decode cX7_bound 53 = .ok (.iaload, 1) := by decide +kernel
theorem dX7_bound_54 : decode cX7_bound 54 = .ok (.if_icmp .le 12, 3) := by decide +kernel
theorem dX7_bound_57 : decode cX7_bound 57 = .ok (.aload_n 0, 1) := by decide +kernel
theorem dX7_bound_58 : decode cX7_bound 58 = .ok (.getfield 26, 3) := by decide +kernel
theorem dX7_bound_61 : decode cX7_bound 61 = .ok (.iconst 3, 1) := by decide +kernel
theorem dX7_bound_62 : decode cX7_bound 62 = .ok (.iaload, 1) := by decide +kernel
theorem dX7_bound_63 : decode cX7_bound 63 = .ok (.goto 9, 3) := by decide +kernel
theorem dX7_bound_66 : decode cX7_bound 66 = .ok (.aload_n 0, 1) := by decide +kernel
theorem dX7_bound_67 : decode cX7_bound 67 = .ok (.getfield 26, 3) := by decide +kernel
theorem dX7_bound_70 : decode cX7_bound 70 = .ok (.iconst 4, 1) := by decide +kernel
theorem dX7_bound_71 : decode cX7_bound 71 = .ok (.iaload, 1) := by decide +kernel
theorem dX7_bound_72 : decode cX7_bound 72 = .ok (.iadd, 1) := by decide +kernel
theorem dX7_bound_73 : decode cX7_bound 73 = .ok (.ireturn, 1) := by decide +kernel
theorem dX7_safe_0 : decode cX7_safe 0 = .ok (.aload_n 0, 1) := by decide +kernel
theorem dX7_safe_1 : decode cX7_safe 1 = .ok (.iconst 0, 1) := by decide +kernel
theorem dX7_safe_2 : decode cX7_safe 2 = .ok (.putfield 91, 3) := by decide +kernel
theorem dX7_safe_5 : decode cX7_safe 5 = .ok (.aload_n 0, 1) := by decide +kernel
theorem dX7_safe_6 : decode cX7_safe 6 = .ok (.getfield 147, 3) := by decide +kernel
theorem dX7_safe_9 : decode cX7_safe 9 = .ok (.ifCond .ne 14, 3) := by decide +kernel
theorem dX7_safe_12 : decode cX7_safe 12 = .ok (.aload_n 0, 1) := by decide +kernel
theorem dX7_safe_13 : decode cX7_safe 13 = .ok (.getfield 153, 3) := by decide +kernel
theorem dX7_safe_16 : decode cX7_safe 16 = .ok (.ifCond .ne 7, 3) := by decide +kernel
theorem dX7_safe_19 : decode cX7_safe 19 = .ok (.iconst 1, 1) := by decide +kernel
theorem dX7_safe_20 : decode cX7_safe 20 = .ok (.goto 4, 3) := by decide +kernel
theorem dX7_safe_23 : decode cX7_safe 23 = .ok (.iconst 0, 1) := by decide +kernel
theorem dX7_safe_24 : decode cX7_safe 24 = .ok (.ireturn, 1) := by decide +kernel
end
section
/-! THE FRAME: a walk over abstract frames. A part of a state: field k at place 0, an array in field k at its places. -/
abbrev St : Type := Nat → Nat → Int32
def put (u : St) (k i : Nat) (x : Int32) : St := fun a => if a = k then upd (u a) i x else u a
def b2i (b : Bool) : Int32 := if b = true then 1 else 0
def imn (x y : Int32) : Int32 := if y < x then y else x
def imx (x y : Int32) : Int32 := if x < y then y else x
/-- a loop: n more turns from k on -/
def up {α : Type} (f : Nat → α → α) : Nat → Nat → α → α
  | _, 0, a => a
  | k, n + 1, a => up f (k + 1) n (f k a)
/-- a loop that may leave the method: n more turns from k on -/
def upr {α τ : Type} (f : Nat → α → (α → τ) → τ) (ex : α → τ) : Nat → Nat → α → τ
  | _, 0, a => ex a
  | k, n + 1, a => f k a (fun a' => upr f ex (k + 1) n a')
theorem put_s (u : St) (k i : Nat) (x : Int32) : put u k i x k = upd (u k) i x := if_pos rfl
theorem put_n (u : St) {k a : Nat} (i : Nat) (x : Int32) (h : ¬ a = k) : put u k i x a = u a := if_neg h
theorem nz_b (b : Bool) : narrow .boolean (.int (b2i b)) = .int (b2i b) := by cases b <;> decide
theorem nf_b (b : Bool) : fits .boolean (.int (b2i b)) = true := by cases b <;> decide
theorem nv_b (b : Bool) : vp_nar .boolean (b2i b) = b2i b := by cases b <;> decide
theorem nv_1 : vp_nar .boolean 1 = 1 := by decide
theorem nv_0 : vp_nar .boolean 0 = 0 := by decide
def stg : Nat → Int32
  | 0 => 0 | 1 => 1 | 2 => 3 | 3 => 3 | 4 => 3 | 5 => 1 | 6 => 5 | _ => 1
def NW (U : State) : Prop :=
  va_Nw (.methodLinkNest RX0 59 yX6_outside RX6) U ∧ va_Nw (.methodLinkNest RX2 77 yX6_has RX6) U ∧ va_Nw (.methodLinkNest RX2 88 yX6_bit RX6) U ∧ va_Nw (.methodLinkNest RX3 27 yX6_bit RX6) U ∧ va_Nw (.methodLinkNest RX3 43 yX6_has RX6) U ∧ va_Nw (.methodLinkNest RX4 31 yX6_bit RX6) U ∧ va_Nw (.methodLinkNest RX5 28 yX6_has RX6) U ∧ va_Nw (.fieldLinkNest RX0 63 RX6 "STAGE_ORDERS" "[I" RX6) U ∧ va_AO RX0 U
theorem NW.warm {s U : State} (hW : s.WarmedH U.vm) (h : NW s) : NW U :=
  ⟨va_Nw.warmM hW h.1, va_Nw.warmM hW h.2.1, va_Nw.warmM hW h.2.2.1, va_Nw.warmM hW h.2.2.2.1, va_Nw.warmM hW h.2.2.2.2.1, va_Nw.warmM hW h.2.2.2.2.2.1, va_Nw.warmM hW h.2.2.2.2.2.2.1, va_Nw.warmF hW h.2.2.2.2.2.2.2.1, va_AO.moved hW.alike h.2.2.2.2.2.2.2.2⟩
theorem NW.same {s U : State} (e : s.vm = U.vm) (h : NW s) : NW U :=
  ⟨va_Nw.same rfl e h.1, va_Nw.same rfl e h.2.1, va_Nw.same rfl e h.2.2.1, va_Nw.same rfl e h.2.2.2.1, va_Nw.same rfl e h.2.2.2.2.1, va_Nw.same rfl e h.2.2.2.2.2.1, va_Nw.same rfl e h.2.2.2.2.2.2.1, va_Nw.same rfl e h.2.2.2.2.2.2.2.1, va_AO.moved (e ▸ Vm.Alike.refl s.vm) h.2.2.2.2.2.2.2.2⟩
/-- the static row of orders, nobody writes it -/
def ZT (A : Nat → Prop) (U : State) (H : Heap) : Prop := ∃ t : Nat, va_Z RX6 "STAGE_ORDERS" "[I" (.ref t) A U H ∧ va_T .int t 8 (fun j => .int (stg j)) A U H
theorem ZT.moved {A : Nat → Prop} {u U : State} {H : Heap} (hvm : u.vm.Alike U.vm) (h : ZT A u H) : ZT A U H := by
  obtain ⟨t, h1, h2⟩ := h
  exact ⟨t, h1.moved hvm, h2.moved hvm⟩
theorem ZT.kept {A : Nat → Prop} {U : State} {H H1 : Heap} (h : ZT A U H) (hq : ∀ a : Nat, a < H.size → ¬ A a → H1[a]? = H[a]?) : ZT A U H1 := by
  obtain ⟨t, h1, h2⟩ := h
  exact ⟨t, h1.kept hq, h2.kept hq⟩
theorem ZT.narrow {A B : Nat → Prop} {U : State} {H : Heap} (h : ZT A U H) (hAB : ∀ q, B q → A q) : ZT B U H := by
  obtain ⟨t, h1, h2⟩ := h
  exact ⟨t, h1.narrow hAB, h2.narrow hAB⟩
theorem fm_of {α β : Type} {f : α → Option β} : ∀ {is : List α} {ws : List β}, is.map f = ws.map some → is.filterMap f = ws
  | [], [], _ => rfl
  | [], _ :: _, h => by simp at h
  | _ :: _, [], h => by simp at h
  | i :: is, x :: ws, h => by
    simp only [List.map_cons, List.cons.injEq] at h
    rw [List.filterMap_cons, h.1, fm_of h.2]
theorem fm_all {β : Type} {ws : List β} : ∀ {is : List Nat}, is.all (fun i => decide (i < ws.length)) = true → is.map (fun i => ws[i]?) = (is.filterMap (fun i => ws[i]?)).map some
  | [], _ => rfl
  | i :: is, h => by
    simp only [List.all_cons, Bool.and_eq_true, decide_eq_true_eq] at h
    rw [List.map_cons, List.filterMap_cons, List.getElem?_eq_getElem h.1]
    simp only [List.map_cons]
    rw [← fm_all h.2]
/-- what a method's world is at its start -/
def PB (D : va_G) (tys : List (ClassId × FieldType)) (w1 : va_W) (sz : Nat) (U : State) : Prop := U.heap.size = sz ∧ va_P D vwCl w1 U.heap ∧ va_K D vwCl tys U ∧ va_D (fun _ => True) w1 ∧ NW U ∧ ZT (va_A w1 sz) U U.heap
theorem PB.call {D : va_G} {tys : List (ClassId × FieldType)} {w1 : va_W} {sz : Nat} {U : State} (g : JFrame) (mk : MethodId) (a : Array Value) (h : PB D tys w1 sz U) : PB D tys w1 sz (U.calling g mk a) := by
  obtain ⟨h1, h2, h3, h4, h5, h6⟩ := h
  exact ⟨h1, h2, va_K.moved (u := U) (U := U.calling g mk a) (Vm.Alike.refl U.vm) h3, h4, NW.same (s := U) (U := U.calling g mk a) rfl h5, ZT.moved (u := U) (U := U.calling g mk a) (Vm.Alike.refl U.vm) h6⟩
/-- a method's contract: with these arguments, from the world w1, it answers r (an int or a boolean; CTv: nothing), and the world is w2 -/
def CTi (l : Launch) (D : va_G) (tys : List (ClassId × FieldType)) (y : MethodName) (wsY : List Cond) (rm : Room) (As : List Value) (w1 : va_W) (r : Int32) (w2 : va_W) : Prop := ∀ sz : Nat, Met l y wsY rm (va_Pc As (PB D tys w1 sz)) (va_Qi (fun (r' : Int32) (_ : Unit) => r' = r) (fun _ t => va_P D vwCl w2 t.heap ∧ va_K D vwCl tys t ∧ va_D (va_A w1 sz) w2) (va_A w1 sz)) 0 0 (va_A w1 sz)
def CTv (l : Launch) (D : va_G) (tys : List (ClassId × FieldType)) (y : MethodName) (wsY : List Cond) (rm : Room) (As : List Value) (w1 : va_W) (w2 : va_W) : Prop := ∀ sz : Nat, Met l y wsY rm (va_Pc As (PB D tys w1 sz)) (va_Qv (fun (_ : Unit) => True) (fun _ t => va_P D vwCl w2 t.heap ∧ va_K D vwCl tys t ∧ va_D (va_A w1 sz) w2) (va_A w1 sz)) 0 0 (va_A w1 sz)
/-- the ends of a walk -/
def QI {Ω : Type} (rf : Ω → Int32) (wf : Ω → va_W) (below : List Frame) (args : Array Value) (s : State) (D : va_G) (A : Nat → Prop) (tys : List (ClassId × FieldType)) (o : Ω) : State → Prop := MQ below (va_Qi (fun (r : Int32) (_ : Unit) => r = rf o) (fun _ t => va_P D vwCl (wf o) t.heap ∧ va_K D vwCl tys t ∧ va_D A (wf o)) A) args s 0 0 A
def QV {Ω : Type} (wf : Ω → va_W) (below : List Frame) (args : Array Value) (s : State) (D : va_G) (A : Nat → Prop) (tys : List (ClassId × FieldType)) (o : Ω) : State → Prop := MQ below (va_Qv (fun (_ : Unit) => True) (fun _ t => va_P D vwCl (wf o) t.heap ∧ va_K D vwCl tys t ∧ va_D A (wf o)) A) args s 0 0 A
/-- what stays the same through a method's walk -/
def XC (own : String) (cc : ByteArray) (nL : Nat) (ret : Option FieldType) (nm : String) (tys : List (ClassId × FieldType)) (D : va_G) (A : Nat → Prop) (p : Program) (s : State) (m : MethodId) (args : Array Value) (meth : Method) (c : Code) : Prop :=
  CallFix p m c cc nL s args WA own ∧ va_K D vwCl tys s ∧ (∀ q, s.heap.size ≤ q → A q) ∧ NW s ∧ ZT A s s.heap ∧ meth.sig.returnType = ret ∧ meth.locks = false ∧ meth.name = nm
/-- THE JUDGEMENT: from the frame at pc with locals L, operands st, over every heap that holds ws, the machine comes to Qr (K t) -/
def XI {Ω τ : Type} (p : Program) (l : Launch) (e : Env) (R : Room) (s : State) (m : MethodId) (args : Array Value) (below : List Frame) (meth : Method) (c : Code) (D : va_G) (A : Nat → Prop) (nL cells slots : Nat) (Qr : Ω → State → Prop) (K : τ → Ω) (t : τ) (pc : Nat) (L : List (Nat × Value)) (st : List Value) (ws : va_W) : Prop :=
  ∀ (H : Heap) (locs : List Loc) (ls : Array Slot), va_P D vwCl ws H → va_D A ws → va_S A s.heap H locs → lv_has ls nL L → W p l e R s m args below meth c H locs cells slots (Qr (K t)) (F0 m pc ls st)
section XF
variable {p : Program} {l : Launch} {e : Env} {R : Room} {s : State} {m : MethodId} {args : Array Value} {below : List Frame} {meth : Method} {c : Code} {D : va_G} {A : Nat → Prop} {nL cells slots : Nat} {Ω τ : Type} {Qr : Ω → State → Prop} {K : τ → Ω} {t : τ} {pc : Nat} {L L' : List (Nat × Value)} {st : List Value} {ws : va_W}
variable {own nm : String} {cc : ByteArray} {ret : Option FieldType} {tys : List (ClassId × FieldType)}
theorem x_iconst (C : XC own cc nL ret nm tys D A p s m args meth c) {n : Int} (v : Int32) (d : decode cc pc = .ok (.iconst n, 1)) (hv : Int32.ofInt n = v) (k : XI p l e R s m args below meth c D A nL cells slots Qr K t (pc + 1) L (.int v :: st) ws) : XI p l e R s m args below meth c D A nL cells slots Qr K t pc L st ws := fun H locs ls hP hD hS hL => lv_iconst C.1.1 C.1.2.1 d hv (k H locs ls hP hD hS hL)
theorem x_bipush (C : XC own cc nL ret nm tys D A p s m args meth c) {n : Int} (v : Int32) (d : decode cc pc = .ok (.bipush n, 2)) (hv : (Int8.ofInt n).toInt32 = v) (k : XI p l e R s m args below meth c D A nL cells slots Qr K t (pc + 2) L (.int v :: st) ws) : XI p l e R s m args below meth c D A nL cells slots Qr K t pc L st ws := fun H locs ls hP hD hS hL => lv_bipush C.1.1 C.1.2.1 d hv (k H locs ls hP hD hS hL)
theorem x_sipush (C : XC own cc nL ret nm tys D A p s m args meth c) {n : Int} (v : Int32) (d : decode cc pc = .ok (.sipush n, 3)) (hv : (Int16.ofInt n).toInt32 = v) (k : XI p l e R s m args below meth c D A nL cells slots Qr K t (pc + 3) L (.int v :: st) ws) : XI p l e R s m args below meth c D A nL cells slots Qr K t pc L st ws := fun H locs ls hP hD hS hL => lv_sipush C.1.1 C.1.2.1 d hv (k H locs ls hP hD hS hL)
theorem x_iload_n (C : XC own cc nL ret nm tys D A p s m args meth c) {i : Fin 4} {x : Int32} (d : decode cc pc = .ok (.iload_n i, 1)) (j : Nat) (hj : L[j]? = some ((i : Nat), .int x)) (k : XI p l e R s m args below meth c D A nL cells slots Qr K t (pc + 1) L (.int x :: st) ws) : XI p l e R s m args below meth c D A nL cells slots Qr K t pc L st ws := fun H locs ls hP hD hS hL => lv_iload_n C.1.1 C.1.2.1 d rfl (lv_at hL j hj) (k H locs ls hP hD hS hL)
theorem x_iload (C : XC own cc nL ret nm tys D A p s m args meth c) {i : Nat} {x : Int32} (d : decode cc pc = .ok (.iload i, 2)) (j : Nat) (hj : L[j]? = some (i, .int x)) (k : XI p l e R s m args below meth c D A nL cells slots Qr K t (pc + 2) L (.int x :: st) ws) : XI p l e R s m args below meth c D A nL cells slots Qr K t pc L st ws := fun H locs ls hP hD hS hL => lv_iload C.1.1 C.1.2.1 d (lv_at hL j hj) (k H locs ls hP hD hS hL)
theorem x_aload_n (C : XC own cc nL ret nm tys D A p s m args meth c) {i : Fin 4} {x : Nat} (d : decode cc pc = .ok (.aload_n i, 1)) (j : Nat) (hj : L[j]? = some ((i : Nat), .ref x)) (k : XI p l e R s m args below meth c D A nL cells slots Qr K t (pc + 1) L (.ref x :: st) ws) : XI p l e R s m args below meth c D A nL cells slots Qr K t pc L st ws := fun H locs ls hP hD hS hL => lv_aload_n C.1.1 C.1.2.1 d rfl (lv_at hL j hj) (k H locs ls hP hD hS hL)
theorem x_aload (C : XC own cc nL ret nm tys D A p s m args meth c) {i : Nat} {x : Nat} (d : decode cc pc = .ok (.aload i, 2)) (j : Nat) (hj : L[j]? = some (i, .ref x)) (k : XI p l e R s m args below meth c D A nL cells slots Qr K t (pc + 2) L (.ref x :: st) ws) : XI p l e R s m args below meth c D A nL cells slots Qr K t pc L st ws := fun H locs ls hP hD hS hL => lv_aload C.1.1 C.1.2.1 d (lv_at hL j hj) (k H locs ls hP hD hS hL)
theorem x_istore_n (C : XC own cc nL ret nm tys D A p s m args meth c) {i : Fin 4} {x : Int32} (d : decode cc pc = .ok (.istore_n i, 1)) (hn : (i : Nat) < nL) (hl : ((i : Nat), Value.int x) :: L.filter (fun q => !(q.1 == (i : Nat)) && !(q.1 + 1 == (i : Nat) && q.2.category == 2)) = L') (k : XI p l e R s m args below meth c D A nL cells slots Qr K t (pc + 1) L' st ws) : XI p l e R s m args below meth c D A nL cells slots Qr K t pc L (.int x :: st) ws := fun H locs ls hP hD hS hL => lv_istore_n C.1.1 C.1.2.1 d rfl hL hn hl (fun ls hL => k H locs ls hP hD hS hL)
theorem x_istore (C : XC own cc nL ret nm tys D A p s m args meth c) {i : Nat} {x : Int32} (d : decode cc pc = .ok (.istore i, 2)) (hn : i < nL) (hl : (i, Value.int x) :: L.filter (fun q => !(q.1 == i) && !(q.1 + 1 == i && q.2.category == 2)) = L') (k : XI p l e R s m args below meth c D A nL cells slots Qr K t (pc + 2) L' st ws) : XI p l e R s m args below meth c D A nL cells slots Qr K t pc L (.int x :: st) ws := fun H locs ls hP hD hS hL => lv_istore C.1.1 C.1.2.1 d hL hn hl (fun ls hL => k H locs ls hP hD hS hL)
theorem x_astore_n (C : XC own cc nL ret nm tys D A p s m args meth c) {i : Fin 4} {x : Nat} (d : decode cc pc = .ok (.astore_n i, 1)) (hn : (i : Nat) < nL) (hl : ((i : Nat), Value.ref x) :: L.filter (fun q => !(q.1 == (i : Nat)) && !(q.1 + 1 == (i : Nat) && q.2.category == 2)) = L') (k : XI p l e R s m args below meth c D A nL cells slots Qr K t (pc + 1) L' st ws) : XI p l e R s m args below meth c D A nL cells slots Qr K t pc L (.ref x :: st) ws := fun H locs ls hP hD hS hL => lv_astore_n C.1.1 C.1.2.1 d rfl hL hn hl (fun ls hL => k H locs ls hP hD hS hL)
theorem x_astore (C : XC own cc nL ret nm tys D A p s m args meth c) {i : Nat} {x : Nat} (d : decode cc pc = .ok (.astore i, 2)) (hn : i < nL) (hl : (i, Value.ref x) :: L.filter (fun q => !(q.1 == i) && !(q.1 + 1 == i && q.2.category == 2)) = L') (k : XI p l e R s m args below meth c D A nL cells slots Qr K t (pc + 2) L' st ws) : XI p l e R s m args below meth c D A nL cells slots Qr K t pc L (.ref x :: st) ws := fun H locs ls hP hD hS hL => lv_astore C.1.1 C.1.2.1 d hL hn hl (fun ls hL => k H locs ls hP hD hS hL)
theorem x_iinc (C : XC own cc nL ret nm tys D A p s m args meth c) {i : Nat} {n : Int} {x : Int32} (v : Int32) (d : decode cc pc = .ok (.iinc i n, 3)) (j : Nat) (hj : L[j]? = some (i, .int x)) (hv : x + Int32.ofInt n = v) (hn : i < nL) (hl : (i, Value.int v) :: L.filter (fun q => !(q.1 == i) && !(q.1 + 1 == i && q.2.category == 2)) = L') (k : XI p l e R s m args below meth c D A nL cells slots Qr K t (pc + 3) L' st ws) : XI p l e R s m args below meth c D A nL cells slots Qr K t pc L st ws := fun H locs ls hP hD hS hL => lv_iinc C.1.1 C.1.2.1 d hL hj hv hn hl (fun ls hL => k H locs ls hP hD hS hL)
theorem x_lsub (js : List Nat) (h : lv_pick L js = L') (k : XI p l e R s m args below meth c D A nL cells slots Qr K t pc L' st ws) : XI p l e R s m args below meth c D A nL cells slots Qr K t pc L st ws := fun H locs ls hP hD hS hL => k H locs ls hP hD hS (lv_sub hL js h)
theorem x_iadd (C : XC own cc nL ret nm tys D A p s m args meth c) {x y : Int32} (d : decode cc pc = .ok (.iadd, 1)) (k : XI p l e R s m args below meth c D A nL cells slots Qr K t (pc + 1) L (.int (x + y) :: st) ws) : XI p l e R s m args below meth c D A nL cells slots Qr K t pc L (.int y :: .int x :: st) ws := fun H locs ls hP hD hS hL => lv_iadd C.1.1 C.1.2.1 d (k H locs ls hP hD hS hL)
theorem x_isub (C : XC own cc nL ret nm tys D A p s m args meth c) {x y : Int32} (d : decode cc pc = .ok (.isub, 1)) (k : XI p l e R s m args below meth c D A nL cells slots Qr K t (pc + 1) L (.int (x - y) :: st) ws) : XI p l e R s m args below meth c D A nL cells slots Qr K t pc L (.int y :: .int x :: st) ws := fun H locs ls hP hD hS hL => lv_isub C.1.1 C.1.2.1 d (k H locs ls hP hD hS hL)
theorem x_imul (C : XC own cc nL ret nm tys D A p s m args meth c) {x y : Int32} (d : decode cc pc = .ok (.imul, 1)) (k : XI p l e R s m args below meth c D A nL cells slots Qr K t (pc + 1) L (.int (x * y) :: st) ws) : XI p l e R s m args below meth c D A nL cells slots Qr K t pc L (.int y :: .int x :: st) ws := fun H locs ls hP hD hS hL => lv_imul C.1.1 C.1.2.1 d (k H locs ls hP hD hS hL)
theorem x_iand (C : XC own cc nL ret nm tys D A p s m args meth c) {x y : Int32} (d : decode cc pc = .ok (.iand, 1)) (k : XI p l e R s m args below meth c D A nL cells slots Qr K t (pc + 1) L (.int (x &&& y) :: st) ws) : XI p l e R s m args below meth c D A nL cells slots Qr K t pc L (.int y :: .int x :: st) ws := fun H locs ls hP hD hS hL => lv_iand C.1.1 C.1.2.1 d (k H locs ls hP hD hS hL)
theorem x_ior (C : XC own cc nL ret nm tys D A p s m args meth c) {x y : Int32} (d : decode cc pc = .ok (.ior, 1)) (k : XI p l e R s m args below meth c D A nL cells slots Qr K t (pc + 1) L (.int (x ||| y) :: st) ws) : XI p l e R s m args below meth c D A nL cells slots Qr K t pc L (.int y :: .int x :: st) ws := fun H locs ls hP hD hS hL => lv_ior C.1.1 C.1.2.1 d (k H locs ls hP hD hS hL)
theorem x_ixor (C : XC own cc nL ret nm tys D A p s m args meth c) {x y : Int32} (d : decode cc pc = .ok (.ixor, 1)) (k : XI p l e R s m args below meth c D A nL cells slots Qr K t (pc + 1) L (.int (x ^^^ y) :: st) ws) : XI p l e R s m args below meth c D A nL cells slots Qr K t pc L (.int y :: .int x :: st) ws := fun H locs ls hP hD hS hL => lv_ixor C.1.1 C.1.2.1 d (k H locs ls hP hD hS hL)
theorem x_ishl (C : XC own cc nL ret nm tys D A p s m args meth c) {x y : Int32} (d : decode cc pc = .ok (.ishl, 1)) (k : XI p l e R s m args below meth c D A nL cells slots Qr K t (pc + 1) L (.int (x <<< (y &&& 31)) :: st) ws) : XI p l e R s m args below meth c D A nL cells slots Qr K t pc L (.int y :: .int x :: st) ws := fun H locs ls hP hD hS hL => lv_ishl C.1.1 C.1.2.1 d (k H locs ls hP hD hS hL)
theorem x_ishr (C : XC own cc nL ret nm tys D A p s m args meth c) {x y : Int32} (d : decode cc pc = .ok (.ishr, 1)) (k : XI p l e R s m args below meth c D A nL cells slots Qr K t (pc + 1) L (.int (x >>> (y &&& 31)) :: st) ws) : XI p l e R s m args below meth c D A nL cells slots Qr K t pc L (.int y :: .int x :: st) ws := fun H locs ls hP hD hS hL => lv_ishr C.1.1 C.1.2.1 d (k H locs ls hP hD hS hL)
theorem x_iushr (C : XC own cc nL ret nm tys D A p s m args meth c) {x y : Int32} (d : decode cc pc = .ok (.iushr, 1)) (k : XI p l e R s m args below meth c D A nL cells slots Qr K t (pc + 1) L (.int ((x.toUInt32 >>> (y.toUInt32 &&& Int32.toUInt32 31)).toInt32) :: st) ws) : XI p l e R s m args below meth c D A nL cells slots Qr K t pc L (.int y :: .int x :: st) ws := fun H locs ls hP hD hS hL => lv_iushr C.1.1 C.1.2.1 d rfl (k H locs ls hP hD hS hL)
theorem x_ldcw (C : XC own cc nL ret nm tys D A p s m args meth c) {index : Nat} {v : Int32} (h1 : Cond.constant own index v ∈ WA) (d : decode cc pc = .ok (.ldc_w index, 3)) (k : XI p l e R s m args below meth c D A nL cells slots Qr K t (pc + 3) L (.int v :: st) ws) : XI p l e R s m args below meth c D A nL cells slots Qr K t pc L st ws := fun H locs ls hP hD hS hL => lv_ldcw C.1.1 C.1.2.1 C.1.2.2.2.1 (C.1.2.2.2.2 _ h1) d (k H locs ls hP hD hS hL)
theorem x_idiv (C : XC own cc nL ret nm tys D A p s m args meth c) {x y : Int32} (d : decode cc pc = .ok (.idiv, 1)) (hne : ¬ y = 0) (k : XI p l e R s m args below meth c D A nL cells slots Qr K t (pc + 1) L (.int (x / y) :: st) ws) : XI p l e R s m args below meth c D A nL cells slots Qr K t pc L (.int y :: .int x :: st) ws := fun H locs ls hP hD hS hL => lv_idiv C.1.1 C.1.2.1 d hne (k H locs ls hP hD hS hL)
theorem x_irem (C : XC own cc nL ret nm tys D A p s m args meth c) {x y : Int32} (d : decode cc pc = .ok (.irem, 1)) (hne : ¬ y = 0) (k : XI p l e R s m args below meth c D A nL cells slots Qr K t (pc + 1) L (.int (x - x / y * y) :: st) ws) : XI p l e R s m args below meth c D A nL cells slots Qr K t pc L (.int y :: .int x :: st) ws := fun H locs ls hP hD hS hL => lv_irem C.1.1 C.1.2.1 d hne (k H locs ls hP hD hS hL)
theorem x_leq (h : L = L') (k : XI p l e R s m args below meth c D A nL cells slots Qr K t pc L' st ws) : XI p l e R s m args below meth c D A nL cells slots Qr K t pc L st ws := h ▸ k
theorem x_top {x : Int32} (y : Int32) (h : x = y) (k : XI p l e R s m args below meth c D A nL cells slots Qr K t pc L (.int y :: st) ws) : XI p l e R s m args below meth c D A nL cells slots Qr K t pc L (.int x :: st) ws := h ▸ k
theorem x_res {t' : τ} (h : t = t') (k : XI p l e R s m args below meth c D A nL cells slots Qr K t' pc L st ws) : XI p l e R s m args below meth c D A nL cells slots Qr K t pc L st ws := h ▸ k
theorem x_dup (C : XC own cc nL ret nm tys D A p s m args meth c) {v : Value} (d : decode cc pc = .ok (.dup, 1)) (hv : v.category = 1) (k : XI p l e R s m args below meth c D A nL cells slots Qr K t (pc + 1) L (v :: v :: st) ws) : XI p l e R s m args below meth c D A nL cells slots Qr K t pc L (v :: st) ws := fun H locs ls hP hD hS hL => lv_dup C.1.1 C.1.2.1 d hv (k H locs ls hP hD hS hL)
theorem x_pop (C : XC own cc nL ret nm tys D A p s m args meth c) {v : Value} (d : decode cc pc = .ok (.pop, 1)) (hv : v.category = 1) (k : XI p l e R s m args below meth c D A nL cells slots Qr K t (pc + 1) L st ws) : XI p l e R s m args below meth c D A nL cells slots Qr K t pc L (v :: st) ws := fun H locs ls hP hD hS hL => lv_pop C.1.1 C.1.2.1 d hv (k H locs ls hP hD hS hL)
theorem x_dup2 (C : XC own cc nL ret nm tys D A p s m args meth c) {v u : Value} (d : decode cc pc = .ok (.dup2, 1)) (hv : v.category = 1) (hu : u.category = 1) (k : XI p l e R s m args below meth c D A nL cells slots Qr K t (pc + 1) L (v :: u :: v :: u :: st) ws) : XI p l e R s m args below meth c D A nL cells slots Qr K t pc L (v :: u :: st) ws := fun H locs ls hP hD hS hL => lv_dup2_11 C.1.1 C.1.2.1 d hv hu (k H locs ls hP hD hS hL)
theorem x_goto (C : XC own cc nL ret nm tys D A p s m args meth c) {off : Int} (tgt : Nat) (d : decode cc pc = .ok (.goto off, 3)) (ht : (pc : Int) + off = (tgt : Int)) (k : XI p l e R s m args below meth c D A nL cells slots Qr K t tgt L st ws) : XI p l e R s m args below meth c D A nL cells slots Qr K t pc L st ws := fun H locs ls hP hD hS hL => lv_goto C.1.1 C.1.2.1 d ht (k H locs ls hP hD hS hL)
theorem x_if_eq (C : XC own cc nL ret nm tys D A p s m args meth c) {x : Int32} {off : Int} (tgt : Nat) (d : decode cc pc = .ok (.ifCond .eq off, 3)) (ht : (pc : Int) + off = (tgt : Int)) {a b : τ} [hd : Decidable (x = 0)] (kt : x = 0 → XI p l e R s m args below meth c D A nL cells slots Qr K a tgt L st ws) (kf : ¬ x = 0 → XI p l e R s m args below meth c D A nL cells slots Qr K b (pc + 3) L st ws) : XI p l e R s m args below meth c D A nL cells slots Qr K (if x = 0 then a else b) pc L (.int x :: st) ws := fun H locs ls hP hD hS hL => lv_if_eq C.1.1 C.1.2.1 d ht (fun h => by have h2 : x = 0 := h; have k := kt h2 H locs ls hP hD hS hL; rw [if_pos h2]; exact k) (fun h => by have h2 : ¬ x = 0 := h; have k := kf h2 H locs ls hP hD hS hL; rw [if_neg h2]; exact k)
theorem x_if_eq_t (C : XC own cc nL ret nm tys D A p s m args meth c) {x : Int32} {off : Int} (tgt : Nat) (d : decode cc pc = .ok (.ifCond .eq off, 3)) (ht : (pc : Int) + off = (tgt : Int)) (hc : x = 0) (k : XI p l e R s m args below meth c D A nL cells slots Qr K t tgt L st ws) : XI p l e R s m args below meth c D A nL cells slots Qr K t pc L (.int x :: st) ws := fun H locs ls hP hD hS hL => lv_if_eq C.1.1 C.1.2.1 d ht (fun _ => k H locs ls hP hD hS hL) (fun h => absurd h (by first | exact fun z => hc z | exact fun z => z hc))
theorem x_if_eq_f (C : XC own cc nL ret nm tys D A p s m args meth c) {x : Int32} {off : Int} (tgt : Nat) (d : decode cc pc = .ok (.ifCond .eq off, 3)) (ht : (pc : Int) + off = (tgt : Int)) (hc : ¬ x = 0) (k : XI p l e R s m args below meth c D A nL cells slots Qr K t (pc + 3) L st ws) : XI p l e R s m args below meth c D A nL cells slots Qr K t pc L (.int x :: st) ws := fun H locs ls hP hD hS hL => lv_if_eq C.1.1 C.1.2.1 d ht (fun h => absurd h (by first | exact fun z => hc z | exact fun z => z hc)) (fun _ => k H locs ls hP hD hS hL)
theorem x_if_ne (C : XC own cc nL ret nm tys D A p s m args meth c) {x : Int32} {off : Int} (tgt : Nat) (d : decode cc pc = .ok (.ifCond .ne off, 3)) (ht : (pc : Int) + off = (tgt : Int)) {a b : τ} [hd : Decidable (x = 0)] (kf : x = 0 → XI p l e R s m args below meth c D A nL cells slots Qr K a (pc + 3) L st ws) (kt : ¬ x = 0 → XI p l e R s m args below meth c D A nL cells slots Qr K b tgt L st ws) : XI p l e R s m args below meth c D A nL cells slots Qr K (if x = 0 then a else b) pc L (.int x :: st) ws := fun H locs ls hP hD hS hL => lv_if_ne C.1.1 C.1.2.1 d ht (fun h => by have h2 : ¬ x = 0 := h; have k := kt h2 H locs ls hP hD hS hL; rw [if_neg h2]; exact k) (fun h => by have h2 : x = 0 := h; have k := kf h2 H locs ls hP hD hS hL; rw [if_pos h2]; exact k)
theorem x_if_ne_t (C : XC own cc nL ret nm tys D A p s m args meth c) {x : Int32} {off : Int} (tgt : Nat) (d : decode cc pc = .ok (.ifCond .ne off, 3)) (ht : (pc : Int) + off = (tgt : Int)) (hc : ¬ x = 0) (k : XI p l e R s m args below meth c D A nL cells slots Qr K t tgt L st ws) : XI p l e R s m args below meth c D A nL cells slots Qr K t pc L (.int x :: st) ws := fun H locs ls hP hD hS hL => lv_if_ne C.1.1 C.1.2.1 d ht (fun _ => k H locs ls hP hD hS hL) (fun h => absurd h (by first | exact fun z => hc z | exact fun z => z hc))
theorem x_if_ne_f (C : XC own cc nL ret nm tys D A p s m args meth c) {x : Int32} {off : Int} (tgt : Nat) (d : decode cc pc = .ok (.ifCond .ne off, 3)) (ht : (pc : Int) + off = (tgt : Int)) (hc : x = 0) (k : XI p l e R s m args below meth c D A nL cells slots Qr K t (pc + 3) L st ws) : XI p l e R s m args below meth c D A nL cells slots Qr K t pc L (.int x :: st) ws := fun H locs ls hP hD hS hL => lv_if_ne C.1.1 C.1.2.1 d ht (fun h => absurd h (by first | exact fun z => hc z | exact fun z => z hc)) (fun _ => k H locs ls hP hD hS hL)
theorem x_if_lt (C : XC own cc nL ret nm tys D A p s m args meth c) {x : Int32} {off : Int} (tgt : Nat) (d : decode cc pc = .ok (.ifCond .lt off, 3)) (ht : (pc : Int) + off = (tgt : Int)) {a b : τ} [hd : Decidable (x < 0)] (kt : x < 0 → XI p l e R s m args below meth c D A nL cells slots Qr K a tgt L st ws) (kf : ¬ x < 0 → XI p l e R s m args below meth c D A nL cells slots Qr K b (pc + 3) L st ws) : XI p l e R s m args below meth c D A nL cells slots Qr K (if x < 0 then a else b) pc L (.int x :: st) ws := fun H locs ls hP hD hS hL => lv_if_lt C.1.1 C.1.2.1 d ht (fun h => by have h2 : x < 0 := h; have k := kt h2 H locs ls hP hD hS hL; rw [if_pos h2]; exact k) (fun h => by have h2 : ¬ x < 0 := h; have k := kf h2 H locs ls hP hD hS hL; rw [if_neg h2]; exact k)
theorem x_if_lt_t (C : XC own cc nL ret nm tys D A p s m args meth c) {x : Int32} {off : Int} (tgt : Nat) (d : decode cc pc = .ok (.ifCond .lt off, 3)) (ht : (pc : Int) + off = (tgt : Int)) (hc : x < 0) (k : XI p l e R s m args below meth c D A nL cells slots Qr K t tgt L st ws) : XI p l e R s m args below meth c D A nL cells slots Qr K t pc L (.int x :: st) ws := fun H locs ls hP hD hS hL => lv_if_lt C.1.1 C.1.2.1 d ht (fun _ => k H locs ls hP hD hS hL) (fun h => absurd h (by first | exact fun z => hc z | exact fun z => z hc))
theorem x_if_lt_f (C : XC own cc nL ret nm tys D A p s m args meth c) {x : Int32} {off : Int} (tgt : Nat) (d : decode cc pc = .ok (.ifCond .lt off, 3)) (ht : (pc : Int) + off = (tgt : Int)) (hc : ¬ x < 0) (k : XI p l e R s m args below meth c D A nL cells slots Qr K t (pc + 3) L st ws) : XI p l e R s m args below meth c D A nL cells slots Qr K t pc L (.int x :: st) ws := fun H locs ls hP hD hS hL => lv_if_lt C.1.1 C.1.2.1 d ht (fun h => absurd h (by first | exact fun z => hc z | exact fun z => z hc)) (fun _ => k H locs ls hP hD hS hL)
theorem x_if_ge (C : XC own cc nL ret nm tys D A p s m args meth c) {x : Int32} {off : Int} (tgt : Nat) (d : decode cc pc = .ok (.ifCond .ge off, 3)) (ht : (pc : Int) + off = (tgt : Int)) {a b : τ} [hd : Decidable (x < 0)] (kf : x < 0 → XI p l e R s m args below meth c D A nL cells slots Qr K a (pc + 3) L st ws) (kt : ¬ x < 0 → XI p l e R s m args below meth c D A nL cells slots Qr K b tgt L st ws) : XI p l e R s m args below meth c D A nL cells slots Qr K (if x < 0 then a else b) pc L (.int x :: st) ws := fun H locs ls hP hD hS hL => lv_if_ge C.1.1 C.1.2.1 d ht (fun h => by have h2 : ¬ x < 0 := (Int32.not_lt.mpr h); have k := kt h2 H locs ls hP hD hS hL; rw [if_neg h2]; exact k) (fun h => by have h2 : x < 0 := (Int32.not_le.mp h); have k := kf h2 H locs ls hP hD hS hL; rw [if_pos h2]; exact k)
theorem x_if_ge_t (C : XC own cc nL ret nm tys D A p s m args meth c) {x : Int32} {off : Int} (tgt : Nat) (d : decode cc pc = .ok (.ifCond .ge off, 3)) (ht : (pc : Int) + off = (tgt : Int)) (hc : ¬ x < 0) (k : XI p l e R s m args below meth c D A nL cells slots Qr K t tgt L st ws) : XI p l e R s m args below meth c D A nL cells slots Qr K t pc L (.int x :: st) ws := fun H locs ls hP hD hS hL => lv_if_ge C.1.1 C.1.2.1 d ht (fun _ => k H locs ls hP hD hS hL) (fun h => absurd (Int32.not_le.mp h) (by first | exact fun z => hc z | exact fun z => z hc))
theorem x_if_ge_f (C : XC own cc nL ret nm tys D A p s m args meth c) {x : Int32} {off : Int} (tgt : Nat) (d : decode cc pc = .ok (.ifCond .ge off, 3)) (ht : (pc : Int) + off = (tgt : Int)) (hc : x < 0) (k : XI p l e R s m args below meth c D A nL cells slots Qr K t (pc + 3) L st ws) : XI p l e R s m args below meth c D A nL cells slots Qr K t pc L (.int x :: st) ws := fun H locs ls hP hD hS hL => lv_if_ge C.1.1 C.1.2.1 d ht (fun h => absurd (Int32.not_lt.mpr h) (by first | exact fun z => hc z | exact fun z => z hc)) (fun _ => k H locs ls hP hD hS hL)
theorem x_if_gt (C : XC own cc nL ret nm tys D A p s m args meth c) {x : Int32} {off : Int} (tgt : Nat) (d : decode cc pc = .ok (.ifCond .gt off, 3)) (ht : (pc : Int) + off = (tgt : Int)) {a b : τ} [hd : Decidable (0 < x)] (kt : 0 < x → XI p l e R s m args below meth c D A nL cells slots Qr K a tgt L st ws) (kf : ¬ 0 < x → XI p l e R s m args below meth c D A nL cells slots Qr K b (pc + 3) L st ws) : XI p l e R s m args below meth c D A nL cells slots Qr K (if 0 < x then a else b) pc L (.int x :: st) ws := fun H locs ls hP hD hS hL => lv_if_gt C.1.1 C.1.2.1 d ht (fun h => by have h2 : 0 < x := h; have k := kt h2 H locs ls hP hD hS hL; rw [if_pos h2]; exact k) (fun h => by have h2 : ¬ 0 < x := h; have k := kf h2 H locs ls hP hD hS hL; rw [if_neg h2]; exact k)
theorem x_if_gt_t (C : XC own cc nL ret nm tys D A p s m args meth c) {x : Int32} {off : Int} (tgt : Nat) (d : decode cc pc = .ok (.ifCond .gt off, 3)) (ht : (pc : Int) + off = (tgt : Int)) (hc : 0 < x) (k : XI p l e R s m args below meth c D A nL cells slots Qr K t tgt L st ws) : XI p l e R s m args below meth c D A nL cells slots Qr K t pc L (.int x :: st) ws := fun H locs ls hP hD hS hL => lv_if_gt C.1.1 C.1.2.1 d ht (fun _ => k H locs ls hP hD hS hL) (fun h => absurd h (by first | exact fun z => hc z | exact fun z => z hc))
theorem x_if_gt_f (C : XC own cc nL ret nm tys D A p s m args meth c) {x : Int32} {off : Int} (tgt : Nat) (d : decode cc pc = .ok (.ifCond .gt off, 3)) (ht : (pc : Int) + off = (tgt : Int)) (hc : ¬ 0 < x) (k : XI p l e R s m args below meth c D A nL cells slots Qr K t (pc + 3) L st ws) : XI p l e R s m args below meth c D A nL cells slots Qr K t pc L (.int x :: st) ws := fun H locs ls hP hD hS hL => lv_if_gt C.1.1 C.1.2.1 d ht (fun h => absurd h (by first | exact fun z => hc z | exact fun z => z hc)) (fun _ => k H locs ls hP hD hS hL)
theorem x_if_le (C : XC own cc nL ret nm tys D A p s m args meth c) {x : Int32} {off : Int} (tgt : Nat) (d : decode cc pc = .ok (.ifCond .le off, 3)) (ht : (pc : Int) + off = (tgt : Int)) {a b : τ} [hd : Decidable (0 < x)] (kf : 0 < x → XI p l e R s m args below meth c D A nL cells slots Qr K a (pc + 3) L st ws) (kt : ¬ 0 < x → XI p l e R s m args below meth c D A nL cells slots Qr K b tgt L st ws) : XI p l e R s m args below meth c D A nL cells slots Qr K (if 0 < x then a else b) pc L (.int x :: st) ws := fun H locs ls hP hD hS hL => lv_if_le C.1.1 C.1.2.1 d ht (fun h => by have h2 : ¬ 0 < x := (Int32.not_lt.mpr h); have k := kt h2 H locs ls hP hD hS hL; rw [if_neg h2]; exact k) (fun h => by have h2 : 0 < x := (Int32.not_le.mp h); have k := kf h2 H locs ls hP hD hS hL; rw [if_pos h2]; exact k)
theorem x_if_le_t (C : XC own cc nL ret nm tys D A p s m args meth c) {x : Int32} {off : Int} (tgt : Nat) (d : decode cc pc = .ok (.ifCond .le off, 3)) (ht : (pc : Int) + off = (tgt : Int)) (hc : ¬ 0 < x) (k : XI p l e R s m args below meth c D A nL cells slots Qr K t tgt L st ws) : XI p l e R s m args below meth c D A nL cells slots Qr K t pc L (.int x :: st) ws := fun H locs ls hP hD hS hL => lv_if_le C.1.1 C.1.2.1 d ht (fun _ => k H locs ls hP hD hS hL) (fun h => absurd (Int32.not_le.mp h) (by first | exact fun z => hc z | exact fun z => z hc))
theorem x_if_le_f (C : XC own cc nL ret nm tys D A p s m args meth c) {x : Int32} {off : Int} (tgt : Nat) (d : decode cc pc = .ok (.ifCond .le off, 3)) (ht : (pc : Int) + off = (tgt : Int)) (hc : 0 < x) (k : XI p l e R s m args below meth c D A nL cells slots Qr K t (pc + 3) L st ws) : XI p l e R s m args below meth c D A nL cells slots Qr K t pc L (.int x :: st) ws := fun H locs ls hP hD hS hL => lv_if_le C.1.1 C.1.2.1 d ht (fun h => absurd (Int32.not_lt.mpr h) (by first | exact fun z => hc z | exact fun z => z hc)) (fun _ => k H locs ls hP hD hS hL)
theorem x_icmp_eq (C : XC own cc nL ret nm tys D A p s m args meth c) {x y : Int32} {off : Int} (tgt : Nat) (d : decode cc pc = .ok (.if_icmp .eq off, 3)) (ht : (pc : Int) + off = (tgt : Int)) {a b : τ} [hd : Decidable (x = y)] (kt : x = y → XI p l e R s m args below meth c D A nL cells slots Qr K a tgt L st ws) (kf : ¬ x = y → XI p l e R s m args below meth c D A nL cells slots Qr K b (pc + 3) L st ws) : XI p l e R s m args below meth c D A nL cells slots Qr K (if x = y then a else b) pc L (.int y :: .int x :: st) ws := fun H locs ls hP hD hS hL => lv_icmp_eq C.1.1 C.1.2.1 d ht (fun h => by have h2 : x = y := h; have k := kt h2 H locs ls hP hD hS hL; rw [if_pos h2]; exact k) (fun h => by have h2 : ¬ x = y := h; have k := kf h2 H locs ls hP hD hS hL; rw [if_neg h2]; exact k)
theorem x_icmp_eq_t (C : XC own cc nL ret nm tys D A p s m args meth c) {x y : Int32} {off : Int} (tgt : Nat) (d : decode cc pc = .ok (.if_icmp .eq off, 3)) (ht : (pc : Int) + off = (tgt : Int)) (hc : x = y) (k : XI p l e R s m args below meth c D A nL cells slots Qr K t tgt L st ws) : XI p l e R s m args below meth c D A nL cells slots Qr K t pc L (.int y :: .int x :: st) ws := fun H locs ls hP hD hS hL => lv_icmp_eq C.1.1 C.1.2.1 d ht (fun _ => k H locs ls hP hD hS hL) (fun h => absurd h (by first | exact fun z => hc z | exact fun z => z hc))
theorem x_icmp_eq_f (C : XC own cc nL ret nm tys D A p s m args meth c) {x y : Int32} {off : Int} (tgt : Nat) (d : decode cc pc = .ok (.if_icmp .eq off, 3)) (ht : (pc : Int) + off = (tgt : Int)) (hc : ¬ x = y) (k : XI p l e R s m args below meth c D A nL cells slots Qr K t (pc + 3) L st ws) : XI p l e R s m args below meth c D A nL cells slots Qr K t pc L (.int y :: .int x :: st) ws := fun H locs ls hP hD hS hL => lv_icmp_eq C.1.1 C.1.2.1 d ht (fun h => absurd h (by first | exact fun z => hc z | exact fun z => z hc)) (fun _ => k H locs ls hP hD hS hL)
theorem x_icmp_ne (C : XC own cc nL ret nm tys D A p s m args meth c) {x y : Int32} {off : Int} (tgt : Nat) (d : decode cc pc = .ok (.if_icmp .ne off, 3)) (ht : (pc : Int) + off = (tgt : Int)) {a b : τ} [hd : Decidable (x = y)] (kf : x = y → XI p l e R s m args below meth c D A nL cells slots Qr K a (pc + 3) L st ws) (kt : ¬ x = y → XI p l e R s m args below meth c D A nL cells slots Qr K b tgt L st ws) : XI p l e R s m args below meth c D A nL cells slots Qr K (if x = y then a else b) pc L (.int y :: .int x :: st) ws := fun H locs ls hP hD hS hL => lv_icmp_ne C.1.1 C.1.2.1 d ht (fun h => by have h2 : ¬ x = y := h; have k := kt h2 H locs ls hP hD hS hL; rw [if_neg h2]; exact k) (fun h => by have h2 : x = y := h; have k := kf h2 H locs ls hP hD hS hL; rw [if_pos h2]; exact k)
theorem x_icmp_ne_t (C : XC own cc nL ret nm tys D A p s m args meth c) {x y : Int32} {off : Int} (tgt : Nat) (d : decode cc pc = .ok (.if_icmp .ne off, 3)) (ht : (pc : Int) + off = (tgt : Int)) (hc : ¬ x = y) (k : XI p l e R s m args below meth c D A nL cells slots Qr K t tgt L st ws) : XI p l e R s m args below meth c D A nL cells slots Qr K t pc L (.int y :: .int x :: st) ws := fun H locs ls hP hD hS hL => lv_icmp_ne C.1.1 C.1.2.1 d ht (fun _ => k H locs ls hP hD hS hL) (fun h => absurd h (by first | exact fun z => hc z | exact fun z => z hc))
theorem x_icmp_ne_f (C : XC own cc nL ret nm tys D A p s m args meth c) {x y : Int32} {off : Int} (tgt : Nat) (d : decode cc pc = .ok (.if_icmp .ne off, 3)) (ht : (pc : Int) + off = (tgt : Int)) (hc : x = y) (k : XI p l e R s m args below meth c D A nL cells slots Qr K t (pc + 3) L st ws) : XI p l e R s m args below meth c D A nL cells slots Qr K t pc L (.int y :: .int x :: st) ws := fun H locs ls hP hD hS hL => lv_icmp_ne C.1.1 C.1.2.1 d ht (fun h => absurd h (by first | exact fun z => hc z | exact fun z => z hc)) (fun _ => k H locs ls hP hD hS hL)
theorem x_icmp_lt (C : XC own cc nL ret nm tys D A p s m args meth c) {x y : Int32} {off : Int} (tgt : Nat) (d : decode cc pc = .ok (.if_icmp .lt off, 3)) (ht : (pc : Int) + off = (tgt : Int)) {a b : τ} [hd : Decidable (x < y)] (kt : x < y → XI p l e R s m args below meth c D A nL cells slots Qr K a tgt L st ws) (kf : ¬ x < y → XI p l e R s m args below meth c D A nL cells slots Qr K b (pc + 3) L st ws) : XI p l e R s m args below meth c D A nL cells slots Qr K (if x < y then a else b) pc L (.int y :: .int x :: st) ws := fun H locs ls hP hD hS hL => lv_icmp_lt C.1.1 C.1.2.1 d ht (fun h => by have h2 : x < y := h; have k := kt h2 H locs ls hP hD hS hL; rw [if_pos h2]; exact k) (fun h => by have h2 : ¬ x < y := h; have k := kf h2 H locs ls hP hD hS hL; rw [if_neg h2]; exact k)
theorem x_icmp_lt_t (C : XC own cc nL ret nm tys D A p s m args meth c) {x y : Int32} {off : Int} (tgt : Nat) (d : decode cc pc = .ok (.if_icmp .lt off, 3)) (ht : (pc : Int) + off = (tgt : Int)) (hc : x < y) (k : XI p l e R s m args below meth c D A nL cells slots Qr K t tgt L st ws) : XI p l e R s m args below meth c D A nL cells slots Qr K t pc L (.int y :: .int x :: st) ws := fun H locs ls hP hD hS hL => lv_icmp_lt C.1.1 C.1.2.1 d ht (fun _ => k H locs ls hP hD hS hL) (fun h => absurd h (by first | exact fun z => hc z | exact fun z => z hc))
theorem x_icmp_lt_f (C : XC own cc nL ret nm tys D A p s m args meth c) {x y : Int32} {off : Int} (tgt : Nat) (d : decode cc pc = .ok (.if_icmp .lt off, 3)) (ht : (pc : Int) + off = (tgt : Int)) (hc : ¬ x < y) (k : XI p l e R s m args below meth c D A nL cells slots Qr K t (pc + 3) L st ws) : XI p l e R s m args below meth c D A nL cells slots Qr K t pc L (.int y :: .int x :: st) ws := fun H locs ls hP hD hS hL => lv_icmp_lt C.1.1 C.1.2.1 d ht (fun h => absurd h (by first | exact fun z => hc z | exact fun z => z hc)) (fun _ => k H locs ls hP hD hS hL)
theorem x_icmp_ge (C : XC own cc nL ret nm tys D A p s m args meth c) {x y : Int32} {off : Int} (tgt : Nat) (d : decode cc pc = .ok (.if_icmp .ge off, 3)) (ht : (pc : Int) + off = (tgt : Int)) {a b : τ} [hd : Decidable (x < y)] (kf : x < y → XI p l e R s m args below meth c D A nL cells slots Qr K a (pc + 3) L st ws) (kt : ¬ x < y → XI p l e R s m args below meth c D A nL cells slots Qr K b tgt L st ws) : XI p l e R s m args below meth c D A nL cells slots Qr K (if x < y then a else b) pc L (.int y :: .int x :: st) ws := fun H locs ls hP hD hS hL => lv_icmp_ge C.1.1 C.1.2.1 d ht (fun h => by have h2 : ¬ x < y := (Int32.not_lt.mpr h); have k := kt h2 H locs ls hP hD hS hL; rw [if_neg h2]; exact k) (fun h => by have h2 : x < y := (Int32.not_le.mp h); have k := kf h2 H locs ls hP hD hS hL; rw [if_pos h2]; exact k)
theorem x_icmp_ge_t (C : XC own cc nL ret nm tys D A p s m args meth c) {x y : Int32} {off : Int} (tgt : Nat) (d : decode cc pc = .ok (.if_icmp .ge off, 3)) (ht : (pc : Int) + off = (tgt : Int)) (hc : ¬ x < y) (k : XI p l e R s m args below meth c D A nL cells slots Qr K t tgt L st ws) : XI p l e R s m args below meth c D A nL cells slots Qr K t pc L (.int y :: .int x :: st) ws := fun H locs ls hP hD hS hL => lv_icmp_ge C.1.1 C.1.2.1 d ht (fun _ => k H locs ls hP hD hS hL) (fun h => absurd (Int32.not_le.mp h) (by first | exact fun z => hc z | exact fun z => z hc))
theorem x_icmp_ge_f (C : XC own cc nL ret nm tys D A p s m args meth c) {x y : Int32} {off : Int} (tgt : Nat) (d : decode cc pc = .ok (.if_icmp .ge off, 3)) (ht : (pc : Int) + off = (tgt : Int)) (hc : x < y) (k : XI p l e R s m args below meth c D A nL cells slots Qr K t (pc + 3) L st ws) : XI p l e R s m args below meth c D A nL cells slots Qr K t pc L (.int y :: .int x :: st) ws := fun H locs ls hP hD hS hL => lv_icmp_ge C.1.1 C.1.2.1 d ht (fun h => absurd (Int32.not_lt.mpr h) (by first | exact fun z => hc z | exact fun z => z hc)) (fun _ => k H locs ls hP hD hS hL)
theorem x_icmp_gt (C : XC own cc nL ret nm tys D A p s m args meth c) {x y : Int32} {off : Int} (tgt : Nat) (d : decode cc pc = .ok (.if_icmp .gt off, 3)) (ht : (pc : Int) + off = (tgt : Int)) {a b : τ} [hd : Decidable (y < x)] (kt : y < x → XI p l e R s m args below meth c D A nL cells slots Qr K a tgt L st ws) (kf : ¬ y < x → XI p l e R s m args below meth c D A nL cells slots Qr K b (pc + 3) L st ws) : XI p l e R s m args below meth c D A nL cells slots Qr K (if y < x then a else b) pc L (.int y :: .int x :: st) ws := fun H locs ls hP hD hS hL => lv_icmp_gt C.1.1 C.1.2.1 d ht (fun h => by have h2 : y < x := h; have k := kt h2 H locs ls hP hD hS hL; rw [if_pos h2]; exact k) (fun h => by have h2 : ¬ y < x := h; have k := kf h2 H locs ls hP hD hS hL; rw [if_neg h2]; exact k)
theorem x_icmp_gt_t (C : XC own cc nL ret nm tys D A p s m args meth c) {x y : Int32} {off : Int} (tgt : Nat) (d : decode cc pc = .ok (.if_icmp .gt off, 3)) (ht : (pc : Int) + off = (tgt : Int)) (hc : y < x) (k : XI p l e R s m args below meth c D A nL cells slots Qr K t tgt L st ws) : XI p l e R s m args below meth c D A nL cells slots Qr K t pc L (.int y :: .int x :: st) ws := fun H locs ls hP hD hS hL => lv_icmp_gt C.1.1 C.1.2.1 d ht (fun _ => k H locs ls hP hD hS hL) (fun h => absurd h (by first | exact fun z => hc z | exact fun z => z hc))
theorem x_icmp_gt_f (C : XC own cc nL ret nm tys D A p s m args meth c) {x y : Int32} {off : Int} (tgt : Nat) (d : decode cc pc = .ok (.if_icmp .gt off, 3)) (ht : (pc : Int) + off = (tgt : Int)) (hc : ¬ y < x) (k : XI p l e R s m args below meth c D A nL cells slots Qr K t (pc + 3) L st ws) : XI p l e R s m args below meth c D A nL cells slots Qr K t pc L (.int y :: .int x :: st) ws := fun H locs ls hP hD hS hL => lv_icmp_gt C.1.1 C.1.2.1 d ht (fun h => absurd h (by first | exact fun z => hc z | exact fun z => z hc)) (fun _ => k H locs ls hP hD hS hL)
theorem x_icmp_le (C : XC own cc nL ret nm tys D A p s m args meth c) {x y : Int32} {off : Int} (tgt : Nat) (d : decode cc pc = .ok (.if_icmp .le off, 3)) (ht : (pc : Int) + off = (tgt : Int)) {a b : τ} [hd : Decidable (y < x)] (kf : y < x → XI p l e R s m args below meth c D A nL cells slots Qr K a (pc + 3) L st ws) (kt : ¬ y < x → XI p l e R s m args below meth c D A nL cells slots Qr K b tgt L st ws) : XI p l e R s m args below meth c D A nL cells slots Qr K (if y < x then a else b) pc L (.int y :: .int x :: st) ws := fun H locs ls hP hD hS hL => lv_icmp_le C.1.1 C.1.2.1 d ht (fun h => by have h2 : ¬ y < x := (Int32.not_lt.mpr h); have k := kt h2 H locs ls hP hD hS hL; rw [if_neg h2]; exact k) (fun h => by have h2 : y < x := (Int32.not_le.mp h); have k := kf h2 H locs ls hP hD hS hL; rw [if_pos h2]; exact k)
theorem x_icmp_le_t (C : XC own cc nL ret nm tys D A p s m args meth c) {x y : Int32} {off : Int} (tgt : Nat) (d : decode cc pc = .ok (.if_icmp .le off, 3)) (ht : (pc : Int) + off = (tgt : Int)) (hc : ¬ y < x) (k : XI p l e R s m args below meth c D A nL cells slots Qr K t tgt L st ws) : XI p l e R s m args below meth c D A nL cells slots Qr K t pc L (.int y :: .int x :: st) ws := fun H locs ls hP hD hS hL => lv_icmp_le C.1.1 C.1.2.1 d ht (fun _ => k H locs ls hP hD hS hL) (fun h => absurd (Int32.not_le.mp h) (by first | exact fun z => hc z | exact fun z => z hc))
theorem x_icmp_le_f (C : XC own cc nL ret nm tys D A p s m args meth c) {x y : Int32} {off : Int} (tgt : Nat) (d : decode cc pc = .ok (.if_icmp .le off, 3)) (ht : (pc : Int) + off = (tgt : Int)) (hc : y < x) (k : XI p l e R s m args below meth c D A nL cells slots Qr K t (pc + 3) L st ws) : XI p l e R s m args below meth c D A nL cells slots Qr K t pc L (.int y :: .int x :: st) ws := fun H locs ls hP hD hS hL => lv_icmp_le C.1.1 C.1.2.1 d ht (fun h => absurd (Int32.not_lt.mpr h) (by first | exact fun z => hc z | exact fun z => z hc)) (fun _ => k H locs ls hP hD hS hL)
theorem x_if_eqZ (C : XC own cc nL ret nm tys D A p s m args meth c) {b : Bool} {off : Int} (tgt : Nat) (d : decode cc pc = .ok (.ifCond .eq off, 3)) (ht : (pc : Int) + off = (tgt : Int)) {u v : τ} (kf : b = true → XI p l e R s m args below meth c D A nL cells slots Qr K u (pc + 3) L st ws) (kt : b = false → XI p l e R s m args below meth c D A nL cells slots Qr K v tgt L st ws) : XI p l e R s m args below meth c D A nL cells slots Qr K (if b = true then u else v) pc L (.int (b2i b) :: st) ws := by
  intro H locs ls hP hD hS hL
  cases b with
  | true => exact lv_if_eq C.1.1 C.1.2.1 d ht (fun h => absurd h (by decide)) (fun h => (kf rfl H locs ls hP hD hS hL))
  | false => exact lv_if_eq C.1.1 C.1.2.1 d ht (fun h => (kt rfl H locs ls hP hD hS hL)) (fun h => absurd h (by decide))
theorem x_if_neZ (C : XC own cc nL ret nm tys D A p s m args meth c) {b : Bool} {off : Int} (tgt : Nat) (d : decode cc pc = .ok (.ifCond .ne off, 3)) (ht : (pc : Int) + off = (tgt : Int)) {u v : τ} (kt : b = true → XI p l e R s m args below meth c D A nL cells slots Qr K u tgt L st ws) (kf : b = false → XI p l e R s m args below meth c D A nL cells slots Qr K v (pc + 3) L st ws) : XI p l e R s m args below meth c D A nL cells slots Qr K (if b = true then u else v) pc L (.int (b2i b) :: st) ws := by
  intro H locs ls hP hD hS hL
  cases b with
  | true => exact lv_if_ne C.1.1 C.1.2.1 d ht (fun h => (kt rfl H locs ls hP hD hS hL)) (fun h => absurd h (by decide))
  | false => exact lv_if_ne C.1.1 C.1.2.1 d ht (fun h => absurd h (by decide)) (fun h => (kf rfl H locs ls hP hD hS hL))
theorem x_split {φ : Prop} [hd : Decidable φ] {a b : τ} (kt : φ → XI p l e R s m args below meth c D A nL cells slots Qr K a pc L st ws) (kf : ¬ φ → XI p l e R s m args below meth c D A nL cells slots Qr K b pc L st ws) : XI p l e R s m args below meth c D A nL cells slots Qr K (if φ then a else b) pc L st ws := by
  by_cases h : φ
  · rw [if_pos h]; exact kt h
  · rw [if_neg h]; exact kf h
theorem x_focus {β : Type} (K2 : β → τ) (b : β) (k : XI p l e R s m args below meth c D A nL cells slots Qr (fun z => K (K2 z)) b pc L st ws) : XI p l e R s m args below meth c D A nL cells slots Qr K (K2 b) pc L st ws := k
theorem x_loop {α : Type} (f : Nat → α → α) (K2 : α → τ) (N : Nat) (pcH : Nat) (LH : Nat → α → List (Nat × Value)) (sH : Nat → α → List Value) (wH : Nat → α → va_W)
    (hx : ∀ a : α, XI p l e R s m args below meth c D A nL cells slots Qr K (K2 a) pcH (LH N a) (sH N a) (wH N a))
    (hs : ∀ (k : Nat) (a : α) (K3 : α → τ), k < N → (∀ a' : α, XI p l e R s m args below meth c D A nL cells slots Qr (fun z => K (K3 z)) a' pcH (LH (k + 1) a') (sH (k + 1) a') (wH (k + 1) a')) → XI p l e R s m args below meth c D A nL cells slots Qr (fun z => K (K3 z)) (f k a) pcH (LH k a) (sH k a) (wH k a)) :
    ∀ (n k : Nat) (a : α), k + n = N → XI p l e R s m args below meth c D A nL cells slots Qr K (K2 (up f k n a)) pcH (LH k a) (sH k a) (wH k a) := by
  intro n
  induction n with
  | zero =>
    intro k a h
    have h1 : k = N := h
    subst h1
    exact hx a
  | succ n ih =>
    intro k a h
    exact hs k a (fun z => K2 (up f (k + 1) n z)) (by omega) (fun a' => ih (k + 1) a' (by omega))
theorem x_loopR {α : Type} (f : Nat → α → (α → τ) → τ) (ex : α → τ) (N : Nat) (pcH : Nat) (LH : Nat → α → List (Nat × Value)) (sH : Nat → α → List Value) (wH : Nat → α → va_W)
    (hx : ∀ a : α, XI p l e R s m args below meth c D A nL cells slots Qr K (ex a) pcH (LH N a) (sH N a) (wH N a))
    (hs : ∀ (k : Nat) (a : α) (g : α → τ), k < N → (∀ a' : α, XI p l e R s m args below meth c D A nL cells slots Qr K (g a') pcH (LH (k + 1) a') (sH (k + 1) a') (wH (k + 1) a')) → XI p l e R s m args below meth c D A nL cells slots Qr K (f k a g) pcH (LH k a) (sH k a) (wH k a)) :
    ∀ (n k : Nat) (a : α), k + n = N → XI p l e R s m args below meth c D A nL cells slots Qr K (upr f ex k n a) pcH (LH k a) (sH k a) (wH k a) := by
  intro n
  induction n with
  | zero =>
    intro k a h
    have h1 : k = N := h
    subst h1
    exact hx a
  | succ n ih =>
    intro k a h
    exact hs k a (fun a' => upr f ex (k + 1) n a') (by omega) (fun a' => ih (k + 1) a' (by omega))
theorem x_get (C : XC own cc nL ret nm tys D A p s m args meth c) {Cn : String} {T : u_T} {N ci : Nat} {ref : String} {index : Nat} {a : Nat} {fs : List Value} (hin : ∀ w ∈ u_ws Cn T N, w ∈ WA) (k0 : Nat) (hl : Cond.fieldLink own index ref (T k0).2.1 (T k0).2.2.1 ∈ WA) (q0 : Nat) (he : ws[q0]? = some (a, .inr (ci, fs))) (hc : vwCl[ci]? = some (Cn, T, N)) (hk : k0 < N) (hsame : (T k0).1 = ref) {v : Value} (hv : fs[k0]? = some v) (d : decode cc pc = .ok (.getfield index, 3)) (k : XI p l e R s m args below meth c D A nL cells slots Qr K t (pc + 3) L (v :: st) ws) : XI p l e R s m args below meth c D A nL cells slots Qr K t pc L (.ref a :: st) ws := fun H locs ls hP hD hS hL => va_get (D := D) C.1.1 C.1.2.1 C.1.2.2.2.2 hin C.1.2.2.2.1 C.2.1 hP q0 he hc k0 hk (C.1.2.2.2.2 _ hl) (fun x h => by rw [← hsame]; exact h) hv d (k H locs ls hP hD hS hL)
theorem x_put (C : XC own cc nL ret nm tys D A p s m args meth c) {Cn : String} {T : u_T} {N ci : Nat} {ref : String} {index : Nat} {a : Nat} {fs : List Value} {ws' : va_W} (hin : ∀ w ∈ u_ws Cn T N, w ∈ WA) (ty0 : Nat → FieldType) (hty : ∀ k, k < N → parseFieldDescriptor (T k).2.2.1 = some (ty0 k)) (hnm : ∀ a, a < N → ∀ b, b < N → a ≠ b → (T a).2.1 ≠ (T b).2.1) (k0 : Nat) (hl : Cond.fieldLink own index ref (T k0).2.1 (T k0).2.2.1 ∈ WA) (q0 : Nat) (he : ws[q0]? = some (a, .inr (ci, fs))) (hc : vwCl[ci]? = some (Cn, T, N)) (hk : k0 < N) (hsame : (T k0).1 = ref) (hfin : (T k0).2.2.2 = false) {v : Value} (hn : narrow (ty0 k0) v = v) (hfit : fits (ty0 k0) v = true) (hlen : k0 < fs.length) (d : decode cc pc = .ok (.putfield index, 3)) (hw : ws.set q0 (a, .inr (ci, fs.set k0 v)) = ws') (k : XI p l e R s m args below meth c D A nL cells slots Qr K t (pc + 3) L st ws') : XI p l e R s m args below meth c D A nL cells slots Qr K t pc L (v :: .ref a :: st) ws := fun H locs ls hP hD hS hL => va_put (D := D) (ty := ty0 k0) C.1.1 C.1.2.1 C.1.2.2.2.2 hin ty0 hty hnm C.1.2.2.2.1 C.2.1 hP hD hS q0 he hc k0 hk (C.1.2.2.2.2 _ hl) (fun x h => by rw [← hsame]; exact h) hfin (hty k0 hk) hn hfit hlen d (fun H locs hP hD hS => k H locs ls (hw ▸ hP) (hw ▸ hD) hS hL)
theorem x_putF (C : XC own cc nL ret nm tys D A p s m args meth c) {Cn : String} {T : u_T} {N ci : Nat} {ref : String} {index : Nat} {a : Nat} {fs : List Value} {ws' : va_W} (hin : ∀ w ∈ u_ws Cn T N, w ∈ WA) (ty0 : Nat → FieldType) (hty : ∀ k, k < N → parseFieldDescriptor (T k).2.2.1 = some (ty0 k)) (hnm : ∀ a, a < N → ∀ b, b < N → a ≠ b → (T a).2.1 ≠ (T b).2.1) (k0 : Nat) (hl : Cond.fieldLink own index ref (T k0).2.1 (T k0).2.2.1 ∈ WA) (q0 : Nat) (he : ws[q0]? = some (a, .inr (ci, fs))) (hc : vwCl[ci]? = some (Cn, T, N)) (hk : k0 < N) (hsame : (T k0).1 = ref) (hfin : (T k0).2.2.2 = true) (hini : nm = "<init>") (hdecl : (T k0).1 = own) {v : Value} (hn : narrow (ty0 k0) v = v) (hfit : fits (ty0 k0) v = true) (hlen : k0 < fs.length) (d : decode cc pc = .ok (.putfield index, 3)) (hw : ws.set q0 (a, .inr (ci, fs.set k0 v)) = ws') (k : XI p l e R s m args below meth c D A nL cells slots Qr K t (pc + 3) L st ws') : XI p l e R s m args below meth c D A nL cells slots Qr K t pc L (v :: .ref a :: st) ws := fun H locs ls hP hD hS hL => va_putF (D := D) (ty := ty0 k0) C.1.1 C.1.2.1 C.1.2.2.2.2 hin ty0 hty hnm C.1.2.2.2.1 C.2.1 hP hD hS q0 he hc k0 hk (C.1.2.2.2.2 _ hl) (fun x h => by rw [← hsame]; exact h) hfin (C.2.2.2.2.2.2.2.trans hini) hdecl (hty k0 hk) hn hfit hlen d (fun H locs hP hD hS => k H locs ls (hw ▸ hP) (hw ▸ hD) hS hL)
theorem x_iald (C : XC own cc nL ret nm tys D A p s m args meth c) {a n : Nat} {cA : ClassId} {f : Nat → Int32} {i : Int32} (q0 t0 : Nat) (ha : ws[q0]? = some (a, .inl (cA, n, .inl f))) (ht : tys[t0]? = some (cA, .int)) (j : Nat) (hi : i = nI j) (hj : j < n) (hn : n < 2 ^ 31) (z : Int32) (hz : f j = z) (d : decode cc pc = .ok (.iaload, 1)) (k : XI p l e R s m args below meth c D A nL cells slots Qr K t (pc + 1) L (.int z :: st) ws) : XI p l e R s m args below meth c D A nL cells slots Qr K t pc L (.int i :: .ref a :: st) ws := fun H locs ls hP hD hS hL => va_iald (D := D) C.1.1 C.1.2.1 C.2.1 hP q0 t0 ha ht (by rw [hi]; exact vp_in_nI hj hn) d (by rw [hi, nI_clamp (Nat.lt_trans hj hn), hz]; exact k H locs ls hP hD hS hL)
theorem x_zald (C : XC own cc nL ret nm tys D A p s m args meth c) {a n : Nat} {cA : ClassId} {f : Nat → Int32} {i : Int32} (q0 t0 : Nat) (ha : ws[q0]? = some (a, .inl (cA, n, .inl f))) (ht : tys[t0]? = some (cA, .boolean)) (j : Nat) (hi : i = nI j) (hj : j < n) (hn : n < 2 ^ 31) (z : Int32) (hz : f j = z) (d : decode cc pc = .ok (.baload, 1)) (k : XI p l e R s m args below meth c D A nL cells slots Qr K t (pc + 1) L (.int z :: st) ws) : XI p l e R s m args below meth c D A nL cells slots Qr K t pc L (.int i :: .ref a :: st) ws := fun H locs ls hP hD hS hL => va_zald (D := D) C.1.1 C.1.2.1 C.2.1 hP q0 t0 ha ht (by rw [hi]; exact vp_in_nI hj hn) d (by rw [hi, nI_clamp (Nat.lt_trans hj hn), hz]; exact k H locs ls hP hD hS hL)
theorem x_iast (C : XC own cc nL ret nm tys D A p s m args meth c) {a n : Nat} {cA : ClassId} {f : Nat → Int32} {i : Int32} {x : Int32} {ws' : va_W} (q0 t0 : Nat) (ha : ws[q0]? = some (a, .inl (cA, n, .inl f))) (ht : tys[t0]? = some (cA, .int)) (j : Nat) (hi : i = nI j) (hj : j < n) (hn : n < 2 ^ 31) (d : decode cc pc = .ok (.iastore, 1)) (hw : ws.set q0 (a, .inl (cA, n, .inl (upd f j x))) = ws') (k : XI p l e R s m args below meth c D A nL cells slots Qr K t (pc + 1) L st ws') : XI p l e R s m args below meth c D A nL cells slots Qr K t pc L (.int x :: .int i :: .ref a :: st) ws := fun H locs ls hP hD hS hL => va_iast (D := D) C.1.1 C.1.2.1 C.2.1 hP hD hS q0 t0 ha ht (by rw [hi]; exact vp_in_nI hj hn) d (fun H locs hP hD hS => by rw [hi, nI_clamp (Nat.lt_trans hj hn), hw] at hP hD; exact k H locs ls hP hD hS hL)
theorem x_zast (C : XC own cc nL ret nm tys D A p s m args meth c) {a n : Nat} {cA : ClassId} {f : Nat → Int32} {i : Int32} {x : Int32} {ws' : va_W} (q0 t0 : Nat) (ha : ws[q0]? = some (a, .inl (cA, n, .inl f))) (ht : tys[t0]? = some (cA, .boolean)) (j : Nat) (hi : i = nI j) (hj : j < n) (hn : n < 2 ^ 31) (hz : vp_nar .boolean x = x) (d : decode cc pc = .ok (.bastore, 1)) (hw : ws.set q0 (a, .inl (cA, n, .inl (upd f j x))) = ws') (k : XI p l e R s m args below meth c D A nL cells slots Qr K t (pc + 1) L st ws') : XI p l e R s m args below meth c D A nL cells slots Qr K t pc L (.int x :: .int i :: .ref a :: st) ws := fun H locs ls hP hD hS hL => va_zast (D := D) C.1.1 C.1.2.1 C.2.1 hP hD hS q0 t0 ha ht (by rw [hi]; exact vp_in_nI hj hn) d (fun H locs hP hD hS => by rw [hi, nI_clamp (Nat.lt_trans hj hn), hz, hw] at hP hD; exact k H locs ls hP hD hS hL)
theorem x_aald (C : XC own cc nL ret nm tys D A p s m args meth c) {a n : Nat} {cA : ClassId} {Cn : String} {f : Nat → Option Nat} {i : Int32} {v : Nat} (q0 t0 : Nat) (ha : ws[q0]? = some (a, .inl (cA, n, .inr (.inr (.inr (.inr f)))))) (ht : tys[t0]? = some (cA, .object Cn)) (j : Nat) (hi : i = nI j) (hj : j < n) (hn : n < 2 ^ 31) (hv : f j = some v) (d : decode cc pc = .ok (.aaload, 1)) (k : XI p l e R s m args below meth c D A nL cells slots Qr K t (pc + 1) L (.ref v :: st) ws) : XI p l e R s m args below meth c D A nL cells slots Qr K t pc L (.int i :: .ref a :: st) ws := fun H locs ls hP hD hS hL => va_aldq (D := D) C.1.1 C.1.2.1 C.2.1 hP q0 t0 ha ht (by rw [hi]; exact vp_in_nI hj hn) d (by rw [hi, nI_clamp (Nat.lt_trans hj hn), hv]; exact k H locs ls hP hD hS hL)
theorem x_stg (C : XC own cc nL ret nm tys D A p s m args meth c) (hown : own = RX0) (d : decode cc pc = .ok (.getstatic 63, 3)) (k : ∀ tt : Nat, va_T .int tt 8 (fun j => .int (stg j)) A s s.heap → XI p l e R s m args below meth c D A nL cells slots Qr K t (pc + 3) L (.ref tt :: st) ws) : XI p l e R s m args below meth c D A nL cells slots Qr K t pc L st ws := by
  subst hown
  obtain ⟨tt, hZ, hT⟩ := C.2.2.2.2.1
  exact fun H locs ls hP hD hS hL => va_getsN C.1.1 C.1.2.1 hZ hS C.1.2.2.2.1 (va_Nw.use rfl C.2.2.2.1.2.2.2.2.2.2.2.1) (fun _ h => h) d (k tt hT H locs ls hP hD hS hL)
theorem x_tald (C : XC own cc nL ret nm tys D A p s m args meth c) {tt : Nat} {i : Int32} (hT : va_T .int tt 8 (fun j => .int (stg j)) A s s.heap) (j : Nat) (hi : i = nI j) (hj : j < 8) (d : decode cc pc = .ok (.iaload, 1)) (k : XI p l e R s m args below meth c D A nL cells slots Qr K t (pc + 1) L (.int (stg j) :: st) ws) : XI p l e R s m args below meth c D A nL cells slots Qr K t pc L (.int i :: .ref tt :: st) ws := fun H locs ls hP hD hS hL => va_ti C.1.1 C.1.2.1 hT hS (by rw [hi]; exact vp_in_nI hj (by decide)) (by rw [hi, nI_clamp (Nat.lt_trans hj (by decide))]) d (k H locs ls hP hD hS hL)
theorem x_tsI (C : XC own cc nL ret nm tys D A p s m args meth c) {dflt lo hi : Int} {offs : Array Int} {len : Nat} {x : Int32} {off : Int} (v : Int) (tgt : Nat) (d : decode cc pc = .ok (.tableswitch dflt lo hi offs, len)) (hx : x.toInt = v) (h1 : ¬ v < lo) (h2 : ¬ hi < v) (ho : offs[(v - lo).toNat]? = some off) (ht : (pc : Int) + off = (tgt : Int)) (k : XI p l e R s m args below meth c D A nL cells slots Qr K t tgt L st ws) : XI p l e R s m args below meth c D A nL cells slots Qr K t pc L (.int x :: st) ws := fun H locs ls hP hD hS hL => lv_tableIn C.1.1 C.1.2.1 d (by rw [hx]; exact h1) (by rw [hx]; exact h2) (by rw [hx]; exact ho) ht (k H locs ls hP hD hS hL)
theorem x_tsO (C : XC own cc nL ret nm tys D A p s m args meth c) {dflt lo hi : Int} {offs : Array Int} {len : Nat} {x : Int32} (tgt : Nat) (d : decode cc pc = .ok (.tableswitch dflt lo hi offs, len)) (h : x.toInt < lo ∨ hi < x.toInt) (ht : (pc : Int) + dflt = (tgt : Int)) (k : XI p l e R s m args below meth c D A nL cells slots Qr K t tgt L st ws) : XI p l e R s m args below meth c D A nL cells slots Qr K t pc L (.int x :: st) ws := fun H locs ls hP hD hS hL => lv_tableOut C.1.1 C.1.2.1 d h ht (k H locs ls hP hD hS hL)
theorem i_ne {x y : Int32} {v : Int} (h : ¬ x = y) (hy : y.toInt = v) : ¬ x.toInt = v := fun z => h (Int32.toInt_inj.mp (z.trans hy.symm))
theorem i_eq {x y : Int32} {v : Int} (h : x = y) (hy : y.toInt = v) : x.toInt = v := by rw [h]; exact hy
theorem x_mmin (C : XC own cc nL ret nm tys D A p s m args meth c) {index : Nat} {x y : Int32} (h1 : Cond.methodLink own index Lib.Math.min.name ∈ WA) (h2 : Cond.static Lib.Math.min.name ∈ WA) (h3 : Cond.initialized "java/lang/Math" ∈ WA) (h4 : Cond.code Lib.Math.min.name Lib.Math.min.code 2 (some .int) ∈ WA) (hf : 1 ≤ R.frames) (hlo : (st.map fun v => v.category).sum + 13 ≤ R.locals) (hc : cells ≤ R.cells) (hs : slots ≤ R.slots) (d : decode cc pc = .ok (.invokestatic index, 3)) (k : XI p l e R s m args below meth c D A nL cells slots Qr K t (pc + 3) L (.int (imn x y) :: st) ws) : XI p l e R s m args below meth c D A nL cells slots Qr K t pc L (.int y :: .int x :: st) ws := fun H locs ls hP hD hS hL => va_mmin C.1.1 C.1.2.1 (C.1.2.2.1.trans hL.1.symm) C.1.2.2.2.1 (C.1.2.2.2.2 _ h1) (C.1.2.2.2.2 _ h2) (C.1.2.2.2.2 _ h3) (C.1.2.2.2.2 _ h4) hf hlo hc hs d (k H locs ls hP hD hS hL)
theorem x_mmax (C : XC own cc nL ret nm tys D A p s m args meth c) {index : Nat} {x y : Int32} (h1 : Cond.methodLink own index Lib.Math.max.name ∈ WA) (h2 : Cond.static Lib.Math.max.name ∈ WA) (h3 : Cond.initialized "java/lang/Math" ∈ WA) (h4 : Cond.code Lib.Math.max.name Lib.Math.max.code 2 (some .int) ∈ WA) (hf : 1 ≤ R.frames) (hlo : (st.map fun v => v.category).sum + 13 ≤ R.locals) (hc : cells ≤ R.cells) (hs : slots ≤ R.slots) (d : decode cc pc = .ok (.invokestatic index, 3)) (k : XI p l e R s m args below meth c D A nL cells slots Qr K t (pc + 3) L (.int (imx x y) :: st) ws) : XI p l e R s m args below meth c D A nL cells slots Qr K t pc L (.int y :: .int x :: st) ws := fun H locs ls hP hD hS hL => va_mmax C.1.1 C.1.2.1 (C.1.2.2.1.trans hL.1.symm) C.1.2.2.2.1 (C.1.2.2.2.2 _ h1) (C.1.2.2.2.2 _ h2) (C.1.2.2.2.2 _ h3) (C.1.2.2.2.2 _ h4) hf hlo hc hs d (k H locs ls hP hD hS hL)
theorem x_obj (C : XC own cc nL ret nm tys D A p s m args meth c) {index a : Nat} (h1 : Cond.methodLink own index Lib.objectInit ∈ WA) (h2 : Cond.instanceMethod Lib.objectInit ∈ WA) (h3 : Cond.code Lib.objectInit ⟨#[0xb1]⟩ 1 none ∈ WA) (hf : 1 ≤ R.frames) (hlo : (st.map fun v => v.category).sum + 12 ≤ R.locals) (d : decode cc pc = .ok (.invokespecial index, 3)) (k : XI p l e R s m args below meth c D A nL cells slots Qr K t (pc + 3) L st ws) : XI p l e R s m args below meth c D A nL cells slots Qr K t pc L (.ref a :: st) ws := fun H locs ls hP hD hS hL => W.objInit (rest := st) C.1.1 C.1.2.1 C.1.2.2.2.1 (C.1.2.2.2.2 _ h1) (C.1.2.2.2.2 _ h2) (C.1.2.2.2.2 _ h3) rfl (hL.1.trans C.1.2.2.1.symm) rfl d hf (by show 2 * 0 + _ + 12 ≤ _; omega) (k H locs ls hP hD hS hL)
theorem x_iret {rf : Ω → Int32} {wf : Ω → va_W} {x : Int32} (C : XC own cc nL ret nm tys D A p s m args meth c) (hr : ret = some .int) (d : decode cc pc = .ok (.ireturn, 1)) (h1 : rf (K t) = x) (h2 : wf (K t) = ws) : XI p l e R s m args below meth c D A nL 0 0 (QI rf wf below args s D A tys) K t pc L [.int x] ws := by
  intro H locs ls hP hD hS hL
  subst h2
  exact W.iret (hlocks := C.2.2.2.2.2.2.1) C.1.1 C.1.2.1 (C.2.2.2.2.2.1.trans hr) (fun t' ht hW => ⟨⟨x, (), rfl, h1.symm, by rw [ht]; exact hP, va_K.moved hW.alike C.2.1, hD⟩, hS.F ht⟩) hS.2.2 d
theorem x_zret {rf : Ω → Int32} {wf : Ω → va_W} {x : Int32} (C : XC own cc nL ret nm tys D A p s m args meth c) (hr : ret = some .boolean) (hz : narrow .boolean (.int x) = .int x) (d : decode cc pc = .ok (.ireturn, 1)) (h1 : rf (K t) = x) (h2 : wf (K t) = ws) : XI p l e R s m args below meth c D A nL 0 0 (QI rf wf below args s D A tys) K t pc L [.int x] ws := by
  intro H locs ls hP hD hS hL
  subst h2
  exact W.zret (hlocks := C.2.2.2.2.2.2.1) C.1.1 C.1.2.1 (C.2.2.2.2.2.1.trans hr) hz (fun t' ht hW => ⟨⟨x, (), rfl, h1.symm, by rw [ht]; exact hP, va_K.moved hW.alike C.2.1, hD⟩, hS.F ht⟩) hS.2.2 d
theorem x_vret {wf : Ω → va_W} (C : XC own cc nL ret nm tys D A p s m args meth c) (hr : ret = none) (d : decode cc pc = .ok (.return_, 1)) (h2 : wf (K t) = ws) : XI p l e R s m args below meth c D A nL 0 0 (QV wf below args s D A tys) K t pc L [] ws := by
  intro H locs ls hP hD hS hL
  subst h2
  exact W.vret (hlocks := C.2.2.2.2.2.2.1) C.1.1 C.1.2.1 (C.2.2.2.2.2.1.trans hr) (fun t' ht hW => ⟨⟨(), rfl, trivial, by rw [ht]; exact hP, va_K.moved hW.alike C.2.1, hD⟩, hS.F ht⟩) hS.2.2 d
theorem x_ofW {y : MethodName} {ws ws' : List Cond} {rm : Room} {Pc : Array Value → State → Prop} {Qc : Array Value → State → Outcome → State → Prop} {mc ms : Nat} {free : Addr → Prop} {cc : ByteArray} {maxL : Nat} {ret : Option FieldType}
    (hy : plainFor y = true) (hw : ws = Cond.code y cc maxL ret :: ws')
    (body : ∀ p e s m args below meth c s₁, BodyLoose p l y (headSpec ws rm) cc maxL ret e s m args below meth c s₁ → c.maxLocals = maxL → Pc args s →
      W p l e (headSpec ws rm).room s m args below meth c s.heap [] 0 0 (MQ below Qc args s mc ms free) (entryFrame m args maxL)) : Met l y ws rm Pc Qc mc ms free := by
  refine MetFree.of_bodySF (code := cc) (maxLocals := maxL) (ret := ret) hy ?_ ?_
  · intro args s m h hn
    obtain ⟨meth, c, h1, h2, h3, h4, h5, h6, -, -⟩ := Cond.code_spec hn (atoms_spec (ws := ws) h _ (by rw [hw]; exact List.mem_cons_self))
    exact ⟨meth, c, h1, h2, h3, h4, h5, h6⟩
  · intro p e s m args below meth c s₁ B hml hP _
    have hh0 : s₁.heap = s.heap := by rw [B.state]; rfl
    obtain ⟨t, a1, o, b1, b2, b3⟩ := body p e s m args below meth c s₁ B hml hP s₁ hh0 (Stand.of_body B)
    exact ⟨t, o, a1, b1, b2, ⟨b3.1, b3.2⟩⟩
theorem ct_i {rf : Ω → Int32} {wf : Ω → va_W} {y : MethodName} {rm : Room} {As : List Value} {w1 : va_W} {L0 : List (Nat × Value)} (hy : plainFor y = true) (hcls : y.cls = own) (hnm : y.name = nm) (hlen : (lg_sl As).length ≤ nL) (hL0 : lv_args 0 As = L0)
    (body : ∀ (p : Program) (e : Env) (s : State) (m : MethodId) (args : Array Value) (below : List Frame) (meth : Method) (c : Code) (A : Nat → Prop), XC own cc nL ret nm tys D A p s m args meth c → XI p l e rm s m args below meth c D A nL 0 0 (QI rf wf below args s D A tys) K t 0 L0 [] w1) : CTi l D tys y (Cond.code y cc nL ret :: WA) rm As w1 (rf (K t)) (wf (K t)) := by
  intro sz
  subst hcls; subst hnm
  refine x_ofW (cc := cc) (maxL := nL) (ret := ret) hy rfl ?_
  intro p e s m args below meth c s₁ B hml hv
  obtain ⟨rfl, hsz, hP, hK, hD0, hN, hZ⟩ := hv
  have hts : ∀ w ∈ WA, w.before As.toArray s = true := fun w hw => atoms_spec (ws := Cond.code y cc nL ret :: WA) B.pre w (List.mem_cons_of_mem _ hw)
  have hown : s.vm.findClass y.cls = some m.cls := findClass_of_methodNamed B.named
  have hin : meth.name = y.name := (name_of_methodNamed B.named B.method).1
  subst hsz
  have hD := hD0.self (sz := s.heap.size)
  generalize hAe : va_A w1 s.heap.size = A at hD hZ ⊢
  have hA : ∀ q : Nat, s.heap.size ≤ q → A q := fun q h => by rw [← hAe]; exact Or.inr h
  have hl := lv_entry As (n := nL) hlen
  rw [hL0] at hl
  rw [lg_entry_eq]
  exact body p e s m As.toArray below meth c A ⟨⟨B.exec, B.bytes, hml, hown, hts⟩, hK, hA, hN, hZ, B.returns, B.notSynchronized, hin⟩ s.heap [] _ hP hD va_S.rf hl
theorem ct_v {wf : Ω → va_W} {y : MethodName} {rm : Room} {As : List Value} {w1 : va_W} {L0 : List (Nat × Value)} (hy : plainFor y = true) (hcls : y.cls = own) (hnm : y.name = nm) (hlen : (lg_sl As).length ≤ nL) (hL0 : lv_args 0 As = L0)
    (body : ∀ (p : Program) (e : Env) (s : State) (m : MethodId) (args : Array Value) (below : List Frame) (meth : Method) (c : Code) (A : Nat → Prop), XC own cc nL ret nm tys D A p s m args meth c → XI p l e rm s m args below meth c D A nL 0 0 (QV wf below args s D A tys) K t 0 L0 [] w1) : CTv l D tys y (Cond.code y cc nL ret :: WA) rm As w1 (wf (K t)) := by
  intro sz
  subst hcls; subst hnm
  refine x_ofW (cc := cc) (maxL := nL) (ret := ret) hy rfl ?_
  intro p e s m args below meth c s₁ B hml hv
  obtain ⟨rfl, hsz, hP, hK, hD0, hN, hZ⟩ := hv
  have hts : ∀ w ∈ WA, w.before As.toArray s = true := fun w hw => atoms_spec (ws := Cond.code y cc nL ret :: WA) B.pre w (List.mem_cons_of_mem _ hw)
  have hown : s.vm.findClass y.cls = some m.cls := findClass_of_methodNamed B.named
  have hin : meth.name = y.name := (name_of_methodNamed B.named B.method).1
  subst hsz
  have hD := hD0.self (sz := s.heap.size)
  generalize hAe : va_A w1 s.heap.size = A at hD hZ ⊢
  have hA : ∀ q : Nat, s.heap.size ≤ q → A q := fun q h => by rw [← hAe]; exact Or.inr h
  have hl := lv_entry As (n := nL) hlen
  rw [hL0] at hl
  rw [lg_entry_eq]
  exact body p e s m As.toArray below meth c A ⟨⟨B.exec, B.bytes, hml, hown, hts⟩, hK, hA, hN, hZ, B.returns, B.notSynchronized, hin⟩ s.heap [] _ hP hD va_S.rf hl
/-- these are the cells at these places -/
def at_ (ws : va_W) : List Nat → va_W → Prop
  | [], [] => True
  | i :: is, w :: v => ws[i]? = some w ∧ at_ ws is v
  | _, _ => False
theorem at_map {ws : va_W} : ∀ {is : List Nat} {v : va_W}, at_ ws is v → is.map (fun i => ws[i]?) = v.map some
  | [], [], _ => rfl
  | i :: is, w :: v, h => by rw [List.map_cons, List.map_cons, h.1, at_map h.2]
  | [], _ :: _, h => h.elim
  | _ :: _, [], h => h.elim
/-- each cell comes from one of two worlds -/
def at2 (ws w2 : va_W) : List (Nat ⊕ Nat) → va_W → Prop
  | [], [] => True
  | .inl i :: is, w :: v => ws[i]? = some w ∧ at2 ws w2 is v
  | .inr i :: is, w :: v => w2[i]? = some w ∧ at2 ws w2 is v
  | _, _ => False
theorem at2_get {ws w2 : va_W} : ∀ {is : List (Nat ⊕ Nat)} {v : va_W}, at2 ws w2 is v → ∀ (k : Nat) (q : Nat × va_E), v[k]? = some q → (∃ i : Nat, .inl i ∈ is ∧ ws[i]? = some q) ∨ ∃ i : Nat, w2[i]? = some q
  | [], [], _, k, q, h => by simp at h
  | .inl i :: is, w :: v, h, k, q, hq => by
    cases k with
    | zero => cases hq; exact Or.inl ⟨i, List.mem_cons_self, h.1⟩
    | succ k => exact (at2_get h.2 k q hq).imp (fun ⟨j, a, b⟩ => ⟨j, List.mem_cons_of_mem _ a, b⟩) id
  | .inr i :: is, w :: v, h, k, q, hq => by
    cases k with
    | zero => cases hq; exact Or.inr ⟨i, h.1⟩
    | succ k => exact (at2_get h.2 k q hq).imp (fun ⟨j, a, b⟩ => ⟨j, List.mem_cons_of_mem _ a, b⟩) id
  | [], _ :: _, h, _, _, _ => h.elim
  | .inl _ :: _, [], h, _, _, _ => h.elim
  | .inr _ :: _, [], h, _, _, _ => h.elim
/-- places of the callee's cells, and of those that stay -/
def apart (isC : List Nat) (src : List (Nat ⊕ Nat)) : Bool := src.all (fun s => match s with | .inl i => !isC.contains i | .inr _ => true)
theorem apart_of {isC : List Nat} {src : List (Nat ⊕ Nat)} (h : apart isC src = true) : ∀ i ∈ isC, .inl i ∉ src := fun i hi hs => by
  have h1 := List.all_eq_true.mp h _ hs
  simp only [Bool.not_eq_true', List.contains_eq_mem, decide_eq_false_iff_not] at h1
  exact h1 hi
/-- the same addresses -/
def sameA : va_W → va_W → Prop
  | [], [] => True
  | p :: a, q :: b => p.1 = q.1 ∧ sameA a b
  | _, _ => False
theorem sameA_get : ∀ {a b : va_W}, sameA a b → ∀ (k : Nat) (q : Nat × va_E), a[k]? = some q → ∃ p, b[k]? = some p ∧ p.1 = q.1
  | [], [], _, k, q, h => by simp at h
  | p :: a, q :: b, h, k, z, hz => by
    cases k with
    | zero => cases hz; exact ⟨q, rfl, h.1.symm⟩
    | succ k => exact sameA_get h.2 k z hz
  | [], _ :: _, h, _, _, _ => h.elim
  | _ :: _, [], h, _, _, _ => h.elim
theorem sameA_D {a b : va_W} {A : Nat → Prop} (h : sameA a b) (hD : va_D A b) : va_D A a := by
  refine ⟨fun i j p q hi hj e => ?_, fun k q hk => ?_⟩
  · obtain ⟨p1, a1, b1⟩ := sameA_get h i p hi
    obtain ⟨q1, a2, b2⟩ := sameA_get h j q hj
    exact hD.1 i j p1 q1 a1 a2 (by rw [b1, b2, e])
  · obtain ⟨p1, a1, b1⟩ := sameA_get h k q hk
    rw [← b1]
    exact hD.2 k p1 a1
/-- behind a call: the callee's cells as its contract says, all others as they were -/
theorem x_back {w1 w2 ws' : va_W} {H H1 : Heap} (isC : List Nat) (src : List (Nat ⊕ Nat)) (hC : at_ ws isC w1) (hsrc : at2 ws w2 src ws') (hdis : ∀ i ∈ isC, .inl i ∉ src) (hsa : sameA ws' ws)
    (hP : va_P D vwCl ws H) (hD : va_D A ws) (hk : ∀ q : Nat, q < H.size → ¬ va_A w1 H.size q → H1[q]? = H[q]?) (hP1 : va_P D vwCl w2 H1) : va_P D vwCl ws' H1 ∧ va_D A ws' := by
  refine ⟨fun k q hq => ?_, sameA_D hsa hD⟩
  rcases at2_get hsrc k q hq with ⟨i, hi, h2⟩ | ⟨i, h2⟩
  · have hl := (hP i q h2).lt
    refine (hP i q h2).kept (hk q.1 hl (fun h => ?_))
    rcases h with ⟨k2, e, h⟩ | h
    · have h1 : (isC.map (fun i => ws[i]?))[k2]? = some (some (q.1, e)) := by rw [at_map hC, List.getElem?_map, h]; rfl
      rw [List.getElem?_map] at h1
      cases hj : isC[k2]? with
      | none => rw [hj] at h1; cases h1
      | some j =>
        rw [hj] at h1
        have hij := hD.1 i j q (q.1, e) h2 (Option.some.inj h1) rfl
        subst hij
        exact hdis i (List.mem_of_getElem? hj) hi
    · omega
  · exact hP1 i q h2
theorem x_hF (C : XC own cc nL ret nm tys D A p s m args meth c) {w1 : va_W} {H : Heap} {locs : List Loc} (isC : List Nat) (hC : at_ ws isC w1) (hD : va_D A ws) (hS : va_S A s.heap H locs) : ∀ q, va_A w1 H.size q → A q := va_free hD hS C.2.2.1 isC (at_map hC)
theorem x_hFW (C : XC own cc nL ret nm tys D A p s m args meth c) {H : Heap} {locs : List Loc} (hD : va_D A ws) (hS : va_S A s.heap H locs) : ∀ q, va_A ws H.size q → A q := fun q h => h.elim (fun ⟨k, e, hk⟩ => hD.2 k (q, e) hk) (fun h => C.2.2.1 q (Nat.le_trans hS.1 h))
/-- what the callee asks of the world stands -/
theorem x_pre (C : XC own cc nL ret nm tys D A p s m args meth c) {w1 : va_W} {H : Heap} {locs : List Loc} (isC : List Nat) (hC : at_ ws isC w1) (hnC : va_nd isC = true) (hP : va_P D vwCl ws H) (hD : va_D A ws) (hS : va_S A s.heap H locs) (hF : ∀ q, va_A w1 H.size q → A q) (U : State) (hU : U.heap = H) (hW : s.WarmedH U.vm) : PB D tys w1 H.size U := by
  refine ⟨by rw [hU], by rw [hU]; exact hP.sub isC (fm_of (at_map hC)), va_K.moved hW.alike C.2.1, (hD.sub isC hnC (at_map hC)).weaken (fun _ _ _ _ => trivial), C.2.2.2.1.warm hW, ?_⟩
  rw [hU]
  exact ((C.2.2.2.2.1.kept (H1 := H) (fun a h1 h2 => hS.2.1 a h1 h2)).moved hW.alike).narrow hF
theorem x_preW (C : XC own cc nL ret nm tys D A p s m args meth c) {H : Heap} {locs : List Loc} (hP : va_P D vwCl ws H) (hD : va_D A ws) (hS : va_S A s.heap H locs) (hF : ∀ q, va_A ws H.size q → A q) (U : State) (hU : U.heap = H) (hW : s.WarmedH U.vm) : PB D tys ws H.size U := by
  refine ⟨by rw [hU], by rw [hU]; exact hP, va_K.moved hW.alike C.2.1, hD.weaken (fun _ _ _ _ => trivial), C.2.2.2.1.warm hW, ?_⟩
  rw [hU]
  exact ((C.2.2.2.2.1.kept (H1 := H) (fun a h1 h2 => hS.2.1 a h1 h2)).moved hW.alike).narrow hF
theorem ga_cons {y : MethodName} {bytes : ByteArray} {maxL : Nat} {rt : Option FieldType} (h : Cond.code y bytes maxL rt ∈ WA) : GoodIn WA (Cond.code y bytes maxL rt :: WA) := fun w hw => by
  rcases List.mem_cons.mp hw with e | e
  · subst e; exact ⟨h, GA h⟩
  · exact ⟨e, GA e⟩
theorem ga_list {l r : List Cond} (hl : ∀ w ∈ l, w ∈ WA) (hr : GoodIn WA r) : GoodIn WA (l ++ r) := fun w hw => by
  rcases List.mem_append.mp hw with e | e
  · exact ⟨hl w e, GA (hl w e)⟩
  · exact hr w e
theorem x_cVi (C : XC own cc nL ret nm tys D A p s m args meth c) {y : MethodName} {rm : Room} {bytes : ByteArray} {maxL n index : Nat} {rt : Option FieldType} {As st0 : List Value} {r : Int32} (h1 : Cond.methodLink own index y ∈ WA) (h2 : Cond.instanceMethod y ∈ WA) (h3 : Cond.selects y.cls y y ∈ WA) (h4 : Cond.initialized y.cls ∈ WA) (h5 : Cond.code y bytes maxL rt ∈ WA) (hd : y.cls ≠ "java/lang/invoke/MethodHandle" ∧ y.cls ≠ "java/lang/invoke/VarHandle" ∧ (parseMethodDescriptor y.desc).map (fun d => d.parameters.length) = some n) (hrc : rm.cells = 0) (hrs : rm.slots = 0) (hRm : rm.frames + 1 ≤ R.frames ∧ 8 + (maxL + 11) + rm.locals ≤ R.locals) {b q0 ci : Nat} {fs : List Value} {q : vw_C} (he : ws[q0]? = some (b, .inr (ci, fs))) (hcl : vwCl[ci]? = some q) (hcn : q.1 = y.cls) {w1 w2 ws' : va_W} (hc : CTi l D tys y (Cond.code y bytes maxL rt :: WA) rm (.ref b :: As) w1 r w2) (isC : List Nat) (src : List (Nat ⊕ Nat)) (hC : at_ ws isC w1) (hnC : va_nd isC = true) (hsrc : at2 ws w2 src ws') (hdis : apart isC src = true) (hsa : sameA ws' ws) (hn' : As.length = n) (hst : st0 = As.reverse ++ .ref b :: st) (hlo : (st.map fun v => v.category).sum ≤ 8) (hcl0 : cells ≤ R.cells) (hsl0 : slots ≤ R.slots) (d : decode cc pc = .ok (.invokevirtual index, 3)) (k : XI p l e R s m args below meth c D A nL cells slots Qr K t (pc + 3) L (.int r :: st) ws') : XI p l e R s m args below meth c D A nL cells slots Qr K t pc L st0 ws := by
  intro H locs ls hP hD hS hL
  subst hst
  have hF := x_hF C isC hC hD hS
  refine va_calli (mc := 0) (ms := 0) (va_runV (As := As) (rest := st) C.1 (hc H.size) (cwV n C.1.2.2.2.2 (ga_list (l := [.methodLink own index y, .instanceMethod y, .selects y.cls y y, .initialized y.cls]) (fun w hw => by simp only [List.mem_cons, List.not_mem_nil, or_false] at hw; rcases hw with rfl | rfl | rfl | rfl <;> assumption) (ga_cons h5)) rfl hrc hrs ⟨rfl, hd⟩ hRm) ⟨fun a U g mk q => ⟨q.1, q.2.call g mk a⟩, by obtain ⟨cell, g1, g2, g3⟩ := va_recv C.2.1 hP hcl he; exact ⟨cell, g1, g2, by rw [← hcn]; exact g3⟩, fun U hU hW => ⟨rfl, x_pre C isC hC hnC hP hD hS hF U hU hW⟩⟩ rfl hn' hL.1 rfl (lv_room hlo) d ⟨hcl0, hsl0⟩) hS (fun q _ h => hF q h) hF (fun r1 u t1 H1 locs1 ht hvm hw hB hz1 hk1 hS => ?_)
  obtain ⟨hP1, hK1, hD1⟩ := hB
  rw [ht] at hP1
  subst hw
  obtain ⟨hP2, hD2⟩ := x_back isC src hC hsrc (apart_of hdis) hsa hP hD hk1 hP1
  exact k H1 locs1 ls hP2 hD2 hS hL
theorem x_cViW (C : XC own cc nL ret nm tys D A p s m args meth c) {y : MethodName} {rm : Room} {bytes : ByteArray} {maxL n index : Nat} {rt : Option FieldType} {As st0 : List Value} {r : Int32} (h1 : Cond.methodLink own index y ∈ WA) (h2 : Cond.instanceMethod y ∈ WA) (h3 : Cond.selects y.cls y y ∈ WA) (h4 : Cond.initialized y.cls ∈ WA) (h5 : Cond.code y bytes maxL rt ∈ WA) (hd : y.cls ≠ "java/lang/invoke/MethodHandle" ∧ y.cls ≠ "java/lang/invoke/VarHandle" ∧ (parseMethodDescriptor y.desc).map (fun d => d.parameters.length) = some n) (hrc : rm.cells = 0) (hrs : rm.slots = 0) (hRm : rm.frames + 1 ≤ R.frames ∧ 8 + (maxL + 11) + rm.locals ≤ R.locals) {b q0 ci : Nat} {fs : List Value} {q : vw_C} (he : ws[q0]? = some (b, .inr (ci, fs))) (hcl : vwCl[ci]? = some q) (hcn : q.1 = y.cls) {w2 : va_W} (hc : CTi l D tys y (Cond.code y bytes maxL rt :: WA) rm (.ref b :: As) ws r w2)  (hn' : As.length = n) (hst : st0 = As.reverse ++ .ref b :: st) (hlo : (st.map fun v => v.category).sum ≤ 8) (hcl0 : cells ≤ R.cells) (hsl0 : slots ≤ R.slots) (d : decode cc pc = .ok (.invokevirtual index, 3)) (k : XI p l e R s m args below meth c D A nL cells slots Qr K t (pc + 3) L (.int r :: st) w2) : XI p l e R s m args below meth c D A nL cells slots Qr K t pc L st0 ws := by
  intro H locs ls hP hD hS hL
  subst hst
  have hF := x_hFW C hD hS
  refine va_calli (mc := 0) (ms := 0) (va_runV (As := As) (rest := st) C.1 (hc H.size) (cwV n C.1.2.2.2.2 (ga_list (l := [.methodLink own index y, .instanceMethod y, .selects y.cls y y, .initialized y.cls]) (fun w hw => by simp only [List.mem_cons, List.not_mem_nil, or_false] at hw; rcases hw with rfl | rfl | rfl | rfl <;> assumption) (ga_cons h5)) rfl hrc hrs ⟨rfl, hd⟩ hRm) ⟨fun a U g mk q => ⟨q.1, q.2.call g mk a⟩, by obtain ⟨cell, g1, g2, g3⟩ := va_recv C.2.1 hP hcl he; exact ⟨cell, g1, g2, by rw [← hcn]; exact g3⟩, fun U hU hW => ⟨rfl, x_preW C hP hD hS hF U hU hW⟩⟩ rfl hn' hL.1 rfl (lv_room hlo) d ⟨hcl0, hsl0⟩) hS (fun q _ h => hF q h) hF (fun r1 u t1 H1 locs1 ht hvm hw hB hz1 hk1 hS => ?_)
  obtain ⟨hP1, hK1, hD1⟩ := hB
  rw [ht] at hP1
  subst hw
  exact k H1 locs1 ls hP1 (hD1.weaken (fun _ q _ h => hF q.1 h)) hS hL
theorem x_cVv (C : XC own cc nL ret nm tys D A p s m args meth c) {y : MethodName} {rm : Room} {bytes : ByteArray} {maxL n index : Nat} {rt : Option FieldType} {As st0 : List Value} (h1 : Cond.methodLink own index y ∈ WA) (h2 : Cond.instanceMethod y ∈ WA) (h3 : Cond.selects y.cls y y ∈ WA) (h4 : Cond.initialized y.cls ∈ WA) (h5 : Cond.code y bytes maxL rt ∈ WA) (hd : y.cls ≠ "java/lang/invoke/MethodHandle" ∧ y.cls ≠ "java/lang/invoke/VarHandle" ∧ (parseMethodDescriptor y.desc).map (fun d => d.parameters.length) = some n) (hrc : rm.cells = 0) (hrs : rm.slots = 0) (hRm : rm.frames + 1 ≤ R.frames ∧ 8 + (maxL + 11) + rm.locals ≤ R.locals) {b q0 ci : Nat} {fs : List Value} {q : vw_C} (he : ws[q0]? = some (b, .inr (ci, fs))) (hcl : vwCl[ci]? = some q) (hcn : q.1 = y.cls) {w1 w2 ws' : va_W} (hc : CTv l D tys y (Cond.code y bytes maxL rt :: WA) rm (.ref b :: As) w1 w2) (isC : List Nat) (src : List (Nat ⊕ Nat)) (hC : at_ ws isC w1) (hnC : va_nd isC = true) (hsrc : at2 ws w2 src ws') (hdis : apart isC src = true) (hsa : sameA ws' ws) (hn' : As.length = n) (hst : st0 = As.reverse ++ .ref b :: st) (hlo : (st.map fun v => v.category).sum ≤ 8) (hcl0 : cells ≤ R.cells) (hsl0 : slots ≤ R.slots) (d : decode cc pc = .ok (.invokevirtual index, 3)) (k : XI p l e R s m args below meth c D A nL cells slots Qr K t (pc + 3) L st ws') : XI p l e R s m args below meth c D A nL cells slots Qr K t pc L st0 ws := by
  intro H locs ls hP hD hS hL
  subst hst
  have hF := x_hF C isC hC hD hS
  refine va_callv (mc := 0) (ms := 0) (va_runV (As := As) (rest := st) C.1 (hc H.size) (cwV n C.1.2.2.2.2 (ga_list (l := [.methodLink own index y, .instanceMethod y, .selects y.cls y y, .initialized y.cls]) (fun w hw => by simp only [List.mem_cons, List.not_mem_nil, or_false] at hw; rcases hw with rfl | rfl | rfl | rfl <;> assumption) (ga_cons h5)) rfl hrc hrs ⟨rfl, hd⟩ hRm) ⟨fun a U g mk q => ⟨q.1, q.2.call g mk a⟩, by obtain ⟨cell, g1, g2, g3⟩ := va_recv C.2.1 hP hcl he; exact ⟨cell, g1, g2, by rw [← hcn]; exact g3⟩, fun U hU hW => ⟨rfl, x_pre C isC hC hnC hP hD hS hF U hU hW⟩⟩ rfl hn' hL.1 rfl (lv_room hlo) d ⟨hcl0, hsl0⟩) hS (fun q _ h => hF q h) hF (fun u t1 H1 locs1 ht hvm hw hB hz1 hk1 hS => ?_)
  obtain ⟨hP1, hK1, hD1⟩ := hB
  rw [ht] at hP1
  skip
  obtain ⟨hP2, hD2⟩ := x_back isC src hC hsrc (apart_of hdis) hsa hP hD hk1 hP1
  exact k H1 locs1 ls hP2 hD2 hS hL
theorem x_cVvW (C : XC own cc nL ret nm tys D A p s m args meth c) {y : MethodName} {rm : Room} {bytes : ByteArray} {maxL n index : Nat} {rt : Option FieldType} {As st0 : List Value} (h1 : Cond.methodLink own index y ∈ WA) (h2 : Cond.instanceMethod y ∈ WA) (h3 : Cond.selects y.cls y y ∈ WA) (h4 : Cond.initialized y.cls ∈ WA) (h5 : Cond.code y bytes maxL rt ∈ WA) (hd : y.cls ≠ "java/lang/invoke/MethodHandle" ∧ y.cls ≠ "java/lang/invoke/VarHandle" ∧ (parseMethodDescriptor y.desc).map (fun d => d.parameters.length) = some n) (hrc : rm.cells = 0) (hrs : rm.slots = 0) (hRm : rm.frames + 1 ≤ R.frames ∧ 8 + (maxL + 11) + rm.locals ≤ R.locals) {b q0 ci : Nat} {fs : List Value} {q : vw_C} (he : ws[q0]? = some (b, .inr (ci, fs))) (hcl : vwCl[ci]? = some q) (hcn : q.1 = y.cls) {w2 : va_W} (hc : CTv l D tys y (Cond.code y bytes maxL rt :: WA) rm (.ref b :: As) ws w2)  (hn' : As.length = n) (hst : st0 = As.reverse ++ .ref b :: st) (hlo : (st.map fun v => v.category).sum ≤ 8) (hcl0 : cells ≤ R.cells) (hsl0 : slots ≤ R.slots) (d : decode cc pc = .ok (.invokevirtual index, 3)) (k : XI p l e R s m args below meth c D A nL cells slots Qr K t (pc + 3) L st w2) : XI p l e R s m args below meth c D A nL cells slots Qr K t pc L st0 ws := by
  intro H locs ls hP hD hS hL
  subst hst
  have hF := x_hFW C hD hS
  refine va_callv (mc := 0) (ms := 0) (va_runV (As := As) (rest := st) C.1 (hc H.size) (cwV n C.1.2.2.2.2 (ga_list (l := [.methodLink own index y, .instanceMethod y, .selects y.cls y y, .initialized y.cls]) (fun w hw => by simp only [List.mem_cons, List.not_mem_nil, or_false] at hw; rcases hw with rfl | rfl | rfl | rfl <;> assumption) (ga_cons h5)) rfl hrc hrs ⟨rfl, hd⟩ hRm) ⟨fun a U g mk q => ⟨q.1, q.2.call g mk a⟩, by obtain ⟨cell, g1, g2, g3⟩ := va_recv C.2.1 hP hcl he; exact ⟨cell, g1, g2, by rw [← hcn]; exact g3⟩, fun U hU hW => ⟨rfl, x_preW C hP hD hS hF U hU hW⟩⟩ rfl hn' hL.1 rfl (lv_room hlo) d ⟨hcl0, hsl0⟩) hS (fun q _ h => hF q h) hF (fun u t1 H1 locs1 ht hvm hw hB hz1 hk1 hS => ?_)
  obtain ⟨hP1, hK1, hD1⟩ := hB
  rw [ht] at hP1
  skip
  exact k H1 locs1 ls hP1 (hD1.weaken (fun _ q _ h => hF q.1 h)) hS hL
theorem x_cNi (C : XC own cc nL ret nm tys D A p s m args meth c) {y : MethodName} {rm : Room} {bytes : ByteArray} {maxL n index : Nat} {rt : Option FieldType} {As st0 : List Value} {r : Int32} (h1 : va_Nw (.methodLinkNest own index y RX6) s) (h2 : Cond.static y ∈ WA) (h4 : Cond.initialized y.cls ∈ WA) (h5 : Cond.code y bytes maxL rt ∈ WA) (hd : y.cls ≠ "java/lang/invoke/MethodHandle" ∧ y.cls ≠ "java/lang/invoke/VarHandle" ∧ (parseMethodDescriptor y.desc).map (fun d => d.parameters.length) = some n) (hrc : rm.cells = 0) (hrs : rm.slots = 0) (hRm : rm.frames + 1 ≤ R.frames ∧ 8 + (maxL + 11) + rm.locals ≤ R.locals) {w1 w2 ws' : va_W} (hc : CTi l D tys y (Cond.code y bytes maxL rt :: WA) rm As w1 r w2) (isC : List Nat) (src : List (Nat ⊕ Nat)) (hC : at_ ws isC w1) (hnC : va_nd isC = true) (hsrc : at2 ws w2 src ws') (hdis : apart isC src = true) (hsa : sameA ws' ws) (hn' : As.length = n) (hst : st0 = As.reverse ++ st) (hlo : (st.map fun v => v.category).sum ≤ 8) (hcl0 : cells ≤ R.cells) (hsl0 : slots ≤ R.slots) (d : decode cc pc = .ok (.invokestatic index, 3)) (k : XI p l e R s m args below meth c D A nL cells slots Qr K t (pc + 3) L (.int r :: st) ws') : XI p l e R s m args below meth c D A nL cells slots Qr K t pc L st0 ws := by
  intro H locs ls hP hD hS hL
  subst hst
  have hF := x_hF C isC hC hD hS
  refine va_calli (mc := 0) (ms := 0) (va_runSN (As := As) (rest := st) C.1 (hc H.size) ⟨va_cnB n C.1.2.2.2.2 (ga_cons h5) rfl hrc hrs h1 (C.1.2.2.2.2 _ h4) hd hRm, C.1.2.2.2.2 _ h2, trivial⟩ ⟨fun a U g mk q => ⟨q.1, q.2.call g mk a⟩, fun U hU hW => ⟨rfl, x_pre C isC hC hnC hP hD hS hF U hU hW⟩⟩ rfl hn' hL.1 rfl (lv_room hlo) d ⟨hcl0, hsl0⟩) hS (fun q _ h => hF q h) hF (fun r1 u t1 H1 locs1 ht hvm hw hB hz1 hk1 hS => ?_)
  obtain ⟨hP1, hK1, hD1⟩ := hB
  rw [ht] at hP1
  subst hw
  obtain ⟨hP2, hD2⟩ := x_back isC src hC hsrc (apart_of hdis) hsa hP hD hk1 hP1
  exact k H1 locs1 ls hP2 hD2 hS hL
theorem x_cNiW (C : XC own cc nL ret nm tys D A p s m args meth c) {y : MethodName} {rm : Room} {bytes : ByteArray} {maxL n index : Nat} {rt : Option FieldType} {As st0 : List Value} {r : Int32} (h1 : va_Nw (.methodLinkNest own index y RX6) s) (h2 : Cond.static y ∈ WA) (h4 : Cond.initialized y.cls ∈ WA) (h5 : Cond.code y bytes maxL rt ∈ WA) (hd : y.cls ≠ "java/lang/invoke/MethodHandle" ∧ y.cls ≠ "java/lang/invoke/VarHandle" ∧ (parseMethodDescriptor y.desc).map (fun d => d.parameters.length) = some n) (hrc : rm.cells = 0) (hrs : rm.slots = 0) (hRm : rm.frames + 1 ≤ R.frames ∧ 8 + (maxL + 11) + rm.locals ≤ R.locals) {w2 : va_W} (hc : CTi l D tys y (Cond.code y bytes maxL rt :: WA) rm As ws r w2)  (hn' : As.length = n) (hst : st0 = As.reverse ++ st) (hlo : (st.map fun v => v.category).sum ≤ 8) (hcl0 : cells ≤ R.cells) (hsl0 : slots ≤ R.slots) (d : decode cc pc = .ok (.invokestatic index, 3)) (k : XI p l e R s m args below meth c D A nL cells slots Qr K t (pc + 3) L (.int r :: st) w2) : XI p l e R s m args below meth c D A nL cells slots Qr K t pc L st0 ws := by
  intro H locs ls hP hD hS hL
  subst hst
  have hF := x_hFW C hD hS
  refine va_calli (mc := 0) (ms := 0) (va_runSN (As := As) (rest := st) C.1 (hc H.size) ⟨va_cnB n C.1.2.2.2.2 (ga_cons h5) rfl hrc hrs h1 (C.1.2.2.2.2 _ h4) hd hRm, C.1.2.2.2.2 _ h2, trivial⟩ ⟨fun a U g mk q => ⟨q.1, q.2.call g mk a⟩, fun U hU hW => ⟨rfl, x_preW C hP hD hS hF U hU hW⟩⟩ rfl hn' hL.1 rfl (lv_room hlo) d ⟨hcl0, hsl0⟩) hS (fun q _ h => hF q h) hF (fun r1 u t1 H1 locs1 ht hvm hw hB hz1 hk1 hS => ?_)
  obtain ⟨hP1, hK1, hD1⟩ := hB
  rw [ht] at hP1
  subst hw
  exact k H1 locs1 ls hP1 (hD1.weaken (fun _ q _ h => hF q.1 h)) hS hL
theorem x_cNv (C : XC own cc nL ret nm tys D A p s m args meth c) {y : MethodName} {rm : Room} {bytes : ByteArray} {maxL n index : Nat} {rt : Option FieldType} {As st0 : List Value} (h1 : va_Nw (.methodLinkNest own index y RX6) s) (h2 : Cond.static y ∈ WA) (h4 : Cond.initialized y.cls ∈ WA) (h5 : Cond.code y bytes maxL rt ∈ WA) (hd : y.cls ≠ "java/lang/invoke/MethodHandle" ∧ y.cls ≠ "java/lang/invoke/VarHandle" ∧ (parseMethodDescriptor y.desc).map (fun d => d.parameters.length) = some n) (hrc : rm.cells = 0) (hrs : rm.slots = 0) (hRm : rm.frames + 1 ≤ R.frames ∧ 8 + (maxL + 11) + rm.locals ≤ R.locals) {w1 w2 ws' : va_W} (hc : CTv l D tys y (Cond.code y bytes maxL rt :: WA) rm As w1 w2) (isC : List Nat) (src : List (Nat ⊕ Nat)) (hC : at_ ws isC w1) (hnC : va_nd isC = true) (hsrc : at2 ws w2 src ws') (hdis : apart isC src = true) (hsa : sameA ws' ws) (hn' : As.length = n) (hst : st0 = As.reverse ++ st) (hlo : (st.map fun v => v.category).sum ≤ 8) (hcl0 : cells ≤ R.cells) (hsl0 : slots ≤ R.slots) (d : decode cc pc = .ok (.invokestatic index, 3)) (k : XI p l e R s m args below meth c D A nL cells slots Qr K t (pc + 3) L st ws') : XI p l e R s m args below meth c D A nL cells slots Qr K t pc L st0 ws := by
  intro H locs ls hP hD hS hL
  subst hst
  have hF := x_hF C isC hC hD hS
  refine va_callv (mc := 0) (ms := 0) (va_runSN (As := As) (rest := st) C.1 (hc H.size) ⟨va_cnB n C.1.2.2.2.2 (ga_cons h5) rfl hrc hrs h1 (C.1.2.2.2.2 _ h4) hd hRm, C.1.2.2.2.2 _ h2, trivial⟩ ⟨fun a U g mk q => ⟨q.1, q.2.call g mk a⟩, fun U hU hW => ⟨rfl, x_pre C isC hC hnC hP hD hS hF U hU hW⟩⟩ rfl hn' hL.1 rfl (lv_room hlo) d ⟨hcl0, hsl0⟩) hS (fun q _ h => hF q h) hF (fun u t1 H1 locs1 ht hvm hw hB hz1 hk1 hS => ?_)
  obtain ⟨hP1, hK1, hD1⟩ := hB
  rw [ht] at hP1
  skip
  obtain ⟨hP2, hD2⟩ := x_back isC src hC hsrc (apart_of hdis) hsa hP hD hk1 hP1
  exact k H1 locs1 ls hP2 hD2 hS hL
theorem x_cNvW (C : XC own cc nL ret nm tys D A p s m args meth c) {y : MethodName} {rm : Room} {bytes : ByteArray} {maxL n index : Nat} {rt : Option FieldType} {As st0 : List Value} (h1 : va_Nw (.methodLinkNest own index y RX6) s) (h2 : Cond.static y ∈ WA) (h4 : Cond.initialized y.cls ∈ WA) (h5 : Cond.code y bytes maxL rt ∈ WA) (hd : y.cls ≠ "java/lang/invoke/MethodHandle" ∧ y.cls ≠ "java/lang/invoke/VarHandle" ∧ (parseMethodDescriptor y.desc).map (fun d => d.parameters.length) = some n) (hrc : rm.cells = 0) (hrs : rm.slots = 0) (hRm : rm.frames + 1 ≤ R.frames ∧ 8 + (maxL + 11) + rm.locals ≤ R.locals) {w2 : va_W} (hc : CTv l D tys y (Cond.code y bytes maxL rt :: WA) rm As ws w2)  (hn' : As.length = n) (hst : st0 = As.reverse ++ st) (hlo : (st.map fun v => v.category).sum ≤ 8) (hcl0 : cells ≤ R.cells) (hsl0 : slots ≤ R.slots) (d : decode cc pc = .ok (.invokestatic index, 3)) (k : XI p l e R s m args below meth c D A nL cells slots Qr K t (pc + 3) L st w2) : XI p l e R s m args below meth c D A nL cells slots Qr K t pc L st0 ws := by
  intro H locs ls hP hD hS hL
  subst hst
  have hF := x_hFW C hD hS
  refine va_callv (mc := 0) (ms := 0) (va_runSN (As := As) (rest := st) C.1 (hc H.size) ⟨va_cnB n C.1.2.2.2.2 (ga_cons h5) rfl hrc hrs h1 (C.1.2.2.2.2 _ h4) hd hRm, C.1.2.2.2.2 _ h2, trivial⟩ ⟨fun a U g mk q => ⟨q.1, q.2.call g mk a⟩, fun U hU hW => ⟨rfl, x_preW C hP hD hS hF U hU hW⟩⟩ rfl hn' hL.1 rfl (lv_room hlo) d ⟨hcl0, hsl0⟩) hS (fun q _ h => hF q h) hF (fun u t1 H1 locs1 ht hvm hw hB hz1 hk1 hS => ?_)
  obtain ⟨hP1, hK1, hD1⟩ := hB
  rw [ht] at hP1
  skip
  exact k H1 locs1 ls hP1 (hD1.weaken (fun _ q _ h => hF q.1 h)) hS hL
theorem x_cSi (C : XC own cc nL ret nm tys D A p s m args meth c) {y : MethodName} {rm : Room} {bytes : ByteArray} {maxL n index : Nat} {rt : Option FieldType} {As st0 : List Value} {r : Int32} (h1 : Cond.methodLink own index y ∈ WA) (h2 : Cond.static y ∈ WA) (h4 : Cond.initialized y.cls ∈ WA) (h5 : Cond.code y bytes maxL rt ∈ WA) (hd : y.cls ≠ "java/lang/invoke/MethodHandle" ∧ y.cls ≠ "java/lang/invoke/VarHandle" ∧ (parseMethodDescriptor y.desc).map (fun d => d.parameters.length) = some n) (hrc : rm.cells = 0) (hrs : rm.slots = 0) (hRm : rm.frames + 1 ≤ R.frames ∧ 8 + (maxL + 11) + rm.locals ≤ R.locals) {w1 w2 ws' : va_W} (hc : CTi l D tys y (Cond.code y bytes maxL rt :: WA) rm As w1 r w2) (isC : List Nat) (src : List (Nat ⊕ Nat)) (hC : at_ ws isC w1) (hnC : va_nd isC = true) (hsrc : at2 ws w2 src ws') (hdis : apart isC src = true) (hsa : sameA ws' ws) (hn' : As.length = n) (hst : st0 = As.reverse ++ st) (hlo : (st.map fun v => v.category).sum ≤ 8) (hcl0 : cells ≤ R.cells) (hsl0 : slots ≤ R.slots) (d : decode cc pc = .ok (.invokestatic index, 3)) (k : XI p l e R s m args below meth c D A nL cells slots Qr K t (pc + 3) L (.int r :: st) ws') : XI p l e R s m args below meth c D A nL cells slots Qr K t pc L st0 ws := by
  intro H locs ls hP hD hS hL
  subst hst
  have hF := x_hF C isC hC hD hS
  refine va_calli (mc := 0) (ms := 0) (va_runS (As := As) (rest := st) C.1 (hc H.size) (va_cwS n C.1.2.2.2.2 (ga_list (l := [.methodLink own index y, .static y, .initialized y.cls]) (fun w hw => by simp only [List.mem_cons, List.not_mem_nil, or_false] at hw; rcases hw with rfl | rfl | rfl <;> assumption) (ga_cons h5)) rfl hrc hrs hd hRm) ⟨fun a U g mk q => ⟨q.1, q.2.call g mk a⟩, fun U hU hW => ⟨rfl, x_pre C isC hC hnC hP hD hS hF U hU hW⟩⟩ rfl hn' hL.1 rfl (lv_room hlo) d ⟨hcl0, hsl0⟩) hS (fun q _ h => hF q h) hF (fun r1 u t1 H1 locs1 ht hvm hw hB hz1 hk1 hS => ?_)
  obtain ⟨hP1, hK1, hD1⟩ := hB
  rw [ht] at hP1
  subst hw
  obtain ⟨hP2, hD2⟩ := x_back isC src hC hsrc (apart_of hdis) hsa hP hD hk1 hP1
  exact k H1 locs1 ls hP2 hD2 hS hL
theorem x_cSiW (C : XC own cc nL ret nm tys D A p s m args meth c) {y : MethodName} {rm : Room} {bytes : ByteArray} {maxL n index : Nat} {rt : Option FieldType} {As st0 : List Value} {r : Int32} (h1 : Cond.methodLink own index y ∈ WA) (h2 : Cond.static y ∈ WA) (h4 : Cond.initialized y.cls ∈ WA) (h5 : Cond.code y bytes maxL rt ∈ WA) (hd : y.cls ≠ "java/lang/invoke/MethodHandle" ∧ y.cls ≠ "java/lang/invoke/VarHandle" ∧ (parseMethodDescriptor y.desc).map (fun d => d.parameters.length) = some n) (hrc : rm.cells = 0) (hrs : rm.slots = 0) (hRm : rm.frames + 1 ≤ R.frames ∧ 8 + (maxL + 11) + rm.locals ≤ R.locals) {w2 : va_W} (hc : CTi l D tys y (Cond.code y bytes maxL rt :: WA) rm As ws r w2)  (hn' : As.length = n) (hst : st0 = As.reverse ++ st) (hlo : (st.map fun v => v.category).sum ≤ 8) (hcl0 : cells ≤ R.cells) (hsl0 : slots ≤ R.slots) (d : decode cc pc = .ok (.invokestatic index, 3)) (k : XI p l e R s m args below meth c D A nL cells slots Qr K t (pc + 3) L (.int r :: st) w2) : XI p l e R s m args below meth c D A nL cells slots Qr K t pc L st0 ws := by
  intro H locs ls hP hD hS hL
  subst hst
  have hF := x_hFW C hD hS
  refine va_calli (mc := 0) (ms := 0) (va_runS (As := As) (rest := st) C.1 (hc H.size) (va_cwS n C.1.2.2.2.2 (ga_list (l := [.methodLink own index y, .static y, .initialized y.cls]) (fun w hw => by simp only [List.mem_cons, List.not_mem_nil, or_false] at hw; rcases hw with rfl | rfl | rfl <;> assumption) (ga_cons h5)) rfl hrc hrs hd hRm) ⟨fun a U g mk q => ⟨q.1, q.2.call g mk a⟩, fun U hU hW => ⟨rfl, x_preW C hP hD hS hF U hU hW⟩⟩ rfl hn' hL.1 rfl (lv_room hlo) d ⟨hcl0, hsl0⟩) hS (fun q _ h => hF q h) hF (fun r1 u t1 H1 locs1 ht hvm hw hB hz1 hk1 hS => ?_)
  obtain ⟨hP1, hK1, hD1⟩ := hB
  rw [ht] at hP1
  subst hw
  exact k H1 locs1 ls hP1 (hD1.weaken (fun _ q _ h => hF q.1 h)) hS hL
theorem x_cSv (C : XC own cc nL ret nm tys D A p s m args meth c) {y : MethodName} {rm : Room} {bytes : ByteArray} {maxL n index : Nat} {rt : Option FieldType} {As st0 : List Value} (h1 : Cond.methodLink own index y ∈ WA) (h2 : Cond.static y ∈ WA) (h4 : Cond.initialized y.cls ∈ WA) (h5 : Cond.code y bytes maxL rt ∈ WA) (hd : y.cls ≠ "java/lang/invoke/MethodHandle" ∧ y.cls ≠ "java/lang/invoke/VarHandle" ∧ (parseMethodDescriptor y.desc).map (fun d => d.parameters.length) = some n) (hrc : rm.cells = 0) (hrs : rm.slots = 0) (hRm : rm.frames + 1 ≤ R.frames ∧ 8 + (maxL + 11) + rm.locals ≤ R.locals) {w1 w2 ws' : va_W} (hc : CTv l D tys y (Cond.code y bytes maxL rt :: WA) rm As w1 w2) (isC : List Nat) (src : List (Nat ⊕ Nat)) (hC : at_ ws isC w1) (hnC : va_nd isC = true) (hsrc : at2 ws w2 src ws') (hdis : apart isC src = true) (hsa : sameA ws' ws) (hn' : As.length = n) (hst : st0 = As.reverse ++ st) (hlo : (st.map fun v => v.category).sum ≤ 8) (hcl0 : cells ≤ R.cells) (hsl0 : slots ≤ R.slots) (d : decode cc pc = .ok (.invokestatic index, 3)) (k : XI p l e R s m args below meth c D A nL cells slots Qr K t (pc + 3) L st ws') : XI p l e R s m args below meth c D A nL cells slots Qr K t pc L st0 ws := by
  intro H locs ls hP hD hS hL
  subst hst
  have hF := x_hF C isC hC hD hS
  refine va_callv (mc := 0) (ms := 0) (va_runS (As := As) (rest := st) C.1 (hc H.size) (va_cwS n C.1.2.2.2.2 (ga_list (l := [.methodLink own index y, .static y, .initialized y.cls]) (fun w hw => by simp only [List.mem_cons, List.not_mem_nil, or_false] at hw; rcases hw with rfl | rfl | rfl <;> assumption) (ga_cons h5)) rfl hrc hrs hd hRm) ⟨fun a U g mk q => ⟨q.1, q.2.call g mk a⟩, fun U hU hW => ⟨rfl, x_pre C isC hC hnC hP hD hS hF U hU hW⟩⟩ rfl hn' hL.1 rfl (lv_room hlo) d ⟨hcl0, hsl0⟩) hS (fun q _ h => hF q h) hF (fun u t1 H1 locs1 ht hvm hw hB hz1 hk1 hS => ?_)
  obtain ⟨hP1, hK1, hD1⟩ := hB
  rw [ht] at hP1
  skip
  obtain ⟨hP2, hD2⟩ := x_back isC src hC hsrc (apart_of hdis) hsa hP hD hk1 hP1
  exact k H1 locs1 ls hP2 hD2 hS hL
theorem x_cSvW (C : XC own cc nL ret nm tys D A p s m args meth c) {y : MethodName} {rm : Room} {bytes : ByteArray} {maxL n index : Nat} {rt : Option FieldType} {As st0 : List Value} (h1 : Cond.methodLink own index y ∈ WA) (h2 : Cond.static y ∈ WA) (h4 : Cond.initialized y.cls ∈ WA) (h5 : Cond.code y bytes maxL rt ∈ WA) (hd : y.cls ≠ "java/lang/invoke/MethodHandle" ∧ y.cls ≠ "java/lang/invoke/VarHandle" ∧ (parseMethodDescriptor y.desc).map (fun d => d.parameters.length) = some n) (hrc : rm.cells = 0) (hrs : rm.slots = 0) (hRm : rm.frames + 1 ≤ R.frames ∧ 8 + (maxL + 11) + rm.locals ≤ R.locals) {w2 : va_W} (hc : CTv l D tys y (Cond.code y bytes maxL rt :: WA) rm As ws w2)  (hn' : As.length = n) (hst : st0 = As.reverse ++ st) (hlo : (st.map fun v => v.category).sum ≤ 8) (hcl0 : cells ≤ R.cells) (hsl0 : slots ≤ R.slots) (d : decode cc pc = .ok (.invokestatic index, 3)) (k : XI p l e R s m args below meth c D A nL cells slots Qr K t (pc + 3) L st w2) : XI p l e R s m args below meth c D A nL cells slots Qr K t pc L st0 ws := by
  intro H locs ls hP hD hS hL
  subst hst
  have hF := x_hFW C hD hS
  refine va_callv (mc := 0) (ms := 0) (va_runS (As := As) (rest := st) C.1 (hc H.size) (va_cwS n C.1.2.2.2.2 (ga_list (l := [.methodLink own index y, .static y, .initialized y.cls]) (fun w hw => by simp only [List.mem_cons, List.not_mem_nil, or_false] at hw; rcases hw with rfl | rfl | rfl <;> assumption) (ga_cons h5)) rfl hrc hrs hd hRm) ⟨fun a U g mk q => ⟨q.1, q.2.call g mk a⟩, fun U hU hW => ⟨rfl, x_preW C hP hD hS hF U hU hW⟩⟩ rfl hn' hL.1 rfl (lv_room hlo) d ⟨hcl0, hsl0⟩) hS (fun q _ h => hF q h) hF (fun u t1 H1 locs1 ht hvm hw hB hz1 hk1 hS => ?_)
  obtain ⟨hP1, hK1, hD1⟩ := hB
  rw [ht] at hP1
  skip
  exact k H1 locs1 ls hP1 (hD1.weaken (fun _ q _ h => hF q.1 h)) hS hL
theorem x_join {β : Type} (K2 : β → τ) (pcJ : Nat) (LJ : β → List (Nat × Value)) (sJ : β → List Value) (wJ : β → va_W) (hJ : ∀ b : β, XI p l e R s m args below meth c D A nL cells slots Qr K (K2 b) pcJ (LJ b) (sJ b) (wJ b)) (b0 : β) (main : (∀ b : β, XI p l e R s m args below meth c D A nL cells slots Qr (fun z => K (K2 z)) b pcJ (LJ b) (sJ b) (wJ b)) → XI p l e R s m args below meth c D A nL cells slots Qr (fun z => K (K2 z)) b0 pc L st ws) : XI p l e R s m args below meth c D A nL cells slots Qr K (K2 b0) pc L st ws := main hJ
theorem x_lab {β : Type} (K2 : β → τ) (pcJ : Nat) (LJ : β → List (Nat × Value)) (sJ : β → List Value) (wJ : β → va_W) (hJ : ∀ b : β, XI p l e R s m args below meth c D A nL cells slots Qr K (K2 b) pcJ (LJ b) (sJ b) (wJ b)) (main : (∀ b : β, XI p l e R s m args below meth c D A nL cells slots Qr K (K2 b) pcJ (LJ b) (sJ b) (wJ b)) → XI p l e R s m args below meth c D A nL cells slots Qr K t pc L st ws) : XI p l e R s m args below meth c D A nL cells slots Qr K t pc L st ws := main hJ
theorem x_icmp_eqN (C : XC own cc nL ret nm tys D A p s m args meth c) (a b : Nat) {x y : Int32} {off : Int} (tgt : Nat) (d : decode cc pc = .ok (.if_icmp .eq off, 3)) (ht : (pc : Int) + off = (tgt : Int)) (hx : x = nI a) (hy : y = nI b) (ha : a < 2 ^ 31) (hb : b < 2 ^ 31) {u v : τ} [hd : Decidable (a = b)] (kt : a = b → XI p l e R s m args below meth c D A nL cells slots Qr K u tgt L st ws) (kf : ¬ a = b → XI p l e R s m args below meth c D A nL cells slots Qr K v (pc + 3) L st ws) : XI p l e R s m args below meth c D A nL cells slots Qr K (if a = b then u else v) pc L (.int y :: .int x :: st) ws := by
  subst hx; subst hy
  have e : (nI a = nI b) ↔ (a = b) := nI_eq ha hb
  by_cases h : a = b
  · rw [if_pos h]; exact x_icmp_eq_t C tgt d ht (e.mpr h) (kt h)
  · rw [if_neg h]; exact x_icmp_eq_f C tgt d ht (fun z => h (e.mp z)) (kf h)
theorem x_icmp_neN (C : XC own cc nL ret nm tys D A p s m args meth c) (a b : Nat) {x y : Int32} {off : Int} (tgt : Nat) (d : decode cc pc = .ok (.if_icmp .ne off, 3)) (ht : (pc : Int) + off = (tgt : Int)) (hx : x = nI a) (hy : y = nI b) (ha : a < 2 ^ 31) (hb : b < 2 ^ 31) {u v : τ} [hd : Decidable (a = b)] (kf : a = b → XI p l e R s m args below meth c D A nL cells slots Qr K u (pc + 3) L st ws) (kt : ¬ a = b → XI p l e R s m args below meth c D A nL cells slots Qr K v tgt L st ws) : XI p l e R s m args below meth c D A nL cells slots Qr K (if a = b then u else v) pc L (.int y :: .int x :: st) ws := by
  subst hx; subst hy
  have e : (nI a = nI b) ↔ (a = b) := nI_eq ha hb
  by_cases h : a = b
  · rw [if_pos h]; exact x_icmp_ne_f C tgt d ht (e.mpr h) (kf h)
  · rw [if_neg h]; exact x_icmp_ne_t C tgt d ht (fun z => h (e.mp z)) (kt h)
theorem x_icmp_ltN (C : XC own cc nL ret nm tys D A p s m args meth c) (a b : Nat) {x y : Int32} {off : Int} (tgt : Nat) (d : decode cc pc = .ok (.if_icmp .lt off, 3)) (ht : (pc : Int) + off = (tgt : Int)) (hx : x = nI a) (hy : y = nI b) (ha : a < 2 ^ 31) (hb : b < 2 ^ 31) {u v : τ} [hd : Decidable (a < b)] (kt : a < b → XI p l e R s m args below meth c D A nL cells slots Qr K u tgt L st ws) (kf : ¬ a < b → XI p l e R s m args below meth c D A nL cells slots Qr K v (pc + 3) L st ws) : XI p l e R s m args below meth c D A nL cells slots Qr K (if a < b then u else v) pc L (.int y :: .int x :: st) ws := by
  subst hx; subst hy
  have e : (nI a < nI b) ↔ (a < b) := nI_ltI ha hb
  by_cases h : a < b
  · rw [if_pos h]; exact x_icmp_lt_t C tgt d ht (e.mpr h) (kt h)
  · rw [if_neg h]; exact x_icmp_lt_f C tgt d ht (fun z => h (e.mp z)) (kf h)
theorem x_icmp_geN (C : XC own cc nL ret nm tys D A p s m args meth c) (a b : Nat) {x y : Int32} {off : Int} (tgt : Nat) (d : decode cc pc = .ok (.if_icmp .ge off, 3)) (ht : (pc : Int) + off = (tgt : Int)) (hx : x = nI a) (hy : y = nI b) (ha : a < 2 ^ 31) (hb : b < 2 ^ 31) {u v : τ} [hd : Decidable (a < b)] (kf : a < b → XI p l e R s m args below meth c D A nL cells slots Qr K u (pc + 3) L st ws) (kt : ¬ a < b → XI p l e R s m args below meth c D A nL cells slots Qr K v tgt L st ws) : XI p l e R s m args below meth c D A nL cells slots Qr K (if a < b then u else v) pc L (.int y :: .int x :: st) ws := by
  subst hx; subst hy
  have e : (nI a < nI b) ↔ (a < b) := nI_ltI ha hb
  by_cases h : a < b
  · rw [if_pos h]; exact x_icmp_ge_f C tgt d ht (e.mpr h) (kf h)
  · rw [if_neg h]; exact x_icmp_ge_t C tgt d ht (fun z => h (e.mp z)) (kt h)
theorem x_icmp_gtN (C : XC own cc nL ret nm tys D A p s m args meth c) (a b : Nat) {x y : Int32} {off : Int} (tgt : Nat) (d : decode cc pc = .ok (.if_icmp .gt off, 3)) (ht : (pc : Int) + off = (tgt : Int)) (hx : x = nI a) (hy : y = nI b) (ha : a < 2 ^ 31) (hb : b < 2 ^ 31) {u v : τ} [hd : Decidable (b < a)] (kt : b < a → XI p l e R s m args below meth c D A nL cells slots Qr K u tgt L st ws) (kf : ¬ b < a → XI p l e R s m args below meth c D A nL cells slots Qr K v (pc + 3) L st ws) : XI p l e R s m args below meth c D A nL cells slots Qr K (if b < a then u else v) pc L (.int y :: .int x :: st) ws := by
  subst hx; subst hy
  have e : (nI b < nI a) ↔ (b < a) := nI_ltI hb ha
  by_cases h : b < a
  · rw [if_pos h]; exact x_icmp_gt_t C tgt d ht (e.mpr h) (kt h)
  · rw [if_neg h]; exact x_icmp_gt_f C tgt d ht (fun z => h (e.mp z)) (kf h)
theorem x_icmp_leN (C : XC own cc nL ret nm tys D A p s m args meth c) (a b : Nat) {x y : Int32} {off : Int} (tgt : Nat) (d : decode cc pc = .ok (.if_icmp .le off, 3)) (ht : (pc : Int) + off = (tgt : Int)) (hx : x = nI a) (hy : y = nI b) (ha : a < 2 ^ 31) (hb : b < 2 ^ 31) {u v : τ} [hd : Decidable (b < a)] (kf : b < a → XI p l e R s m args below meth c D A nL cells slots Qr K u (pc + 3) L st ws) (kt : ¬ b < a → XI p l e R s m args below meth c D A nL cells slots Qr K v tgt L st ws) : XI p l e R s m args below meth c D A nL cells slots Qr K (if b < a then u else v) pc L (.int y :: .int x :: st) ws := by
  subst hx; subst hy
  have e : (nI b < nI a) ↔ (b < a) := nI_ltI hb ha
  by_cases h : b < a
  · rw [if_pos h]; exact x_icmp_le_f C tgt d ht (e.mpr h) (kf h)
  · rw [if_neg h]; exact x_icmp_le_t C tgt d ht (fun z => h (e.mp z)) (kt h)
end XF
end
section
abbrev T3 (cI cZ cO : ClassId) : List (ClassId × FieldType) := [(cI, .int), (cZ, .boolean), (cO, .object RX0)]
def modsF (a b : Nat) : Nat → Option Nat := fun j => if j = 0 then some a else if j = 1 then some b else none
/-- the states of the class: of its parts by number: 0 itself, 1 the plant, 2 the sensors, 3 4 5 and 6 7 8 the modules with votes and watch, 9 the log -/
abbrev Sy : Type := Nat → St
def upY (x : Sy) (i : Nat) (v : St) : Sy := fun a => if a = i then v else x a
def ixn (x : Int32) : Nat := x.toNatClampNeg
abbrev wX0 (cI cZ cO : ClassId) (h : Nat) (hv hw : Nat) (u : St) : va_W := [(h, .inr (0, [.int (u 0 0), .ref hv, .ref hw, .int (u 3 0), .int (u 4 0), .int (u 5 0), .int (u 6 0), .int (u 7 0), .int (u 8 0)]))]
abbrev wX1 (cI cZ cO : ClassId) (h a0 : Nat) (u : St) : va_W := [(h, .inr (1, [.ref a0, .int (u 1 0)])), (a0, .inl (cI, 192, .inl (u 0)))]
abbrev wX2 (cI cZ cO : ClassId) (h a0 a1 a2 a3 a4 : Nat) (u : St) : va_W := [(h, .inr (2, [.ref a0, .ref a1, .ref a2, .ref a3, .ref a4, .int (u 5 0), .int (u 6 0), .int (u 7 0), .int (u 8 0), .int (u 9 0), .int (u 10 0)])), (a0, .inl (cI, 6, .inl (u 0))), (a1, .inl (cI, 6, .inl (u 1))), (a2, .inl (cI, 6, .inl (u 2))), (a3, .inl (cI, 5, .inl (u 3))), (a4, .inl (cI, 5, .inl (u 4)))]
abbrev wX3 (cI cZ cO : ClassId) (h a0 a1 : Nat) (u : St) : va_W := [(h, .inr (3, [.ref a0, .ref a1])), (a0, .inl (cI, 18, .inl (u 0))), (a1, .inl (cI, 54, .inl (u 1)))]
abbrev wX4 (cI cZ cO : ClassId) (h a0 a1 : Nat) (u : St) : va_W := [(h, .inr (4, [.ref a0, .ref a1])), (a0, .inl (cI, 18, .inl (u 0))), (a1, .inl (cI, 18, .inl (u 1)))]
abbrev wX5 (cI cZ cO : ClassId) (h a0 : Nat) (u : St) : va_W := [(h, .inr (5, [.ref a0, .int (u 1 0), .int (u 2 0)])), (a0, .inl (cI, 5, .inl (u 0)))]
abbrev wX6 (cI cZ cO : ClassId) (h a2 : Nat) (hp hs hg b0 b1 : Nat) (u : St) : va_W := [(h, .inr (6, [.ref hp, .ref hs, .ref a2, .ref hg, .int (u 4 0), .int (u 5 0), .int (u 6 0)])), (a2, .inl (cO, 2, .inr (.inr (.inr (.inr (modsF b0 b1))))))]
abbrev wX7 (cI cZ cO : ClassId) (q : Nat → Nat) (u : St) : va_W := [(q 0, .inr (7, [.int (u 0 0), .int (u 1 0), .int (u 2 0), .int (u 3 0), .int (u 4 0), .int (u 5 0), .int (u 6 0), .int (u 7 0), .int (u 8 0), .int (u 9 0), .ref (q 1), .ref (q 2), .ref (q 3), .ref (q 4), .ref (q 5), .ref (q 6), .ref (q 7), .ref (q 8), .ref (q 9), .ref (q 10), .ref (q 11), .ref (q 12), .ref (q 13), .ref (q 14), .ref (q 15), .ref (q 16), .ref (q 17), .ref (q 18), .ref (q 19), .int (u 29 0), .ref (q 20)])), (q 1, .inl (cI, 5, .inl (u 10))), (q 2, .inl (cI, 5, .inl (u 11))), (q 3, .inl (cI, 6, .inl (u 12))), (q 4, .inl (cI, 6, .inl (u 13))), (q 5, .inl (cI, 6, .inl (u 14))), (q 6, .inl (cI, 54, .inl (u 15))), (q 7, .inl (cI, 2, .inl (u 16))), (q 8, .inl (cI, 2, .inl (u 17))), (q 9, .inl (cI, 2, .inl (u 18))), (q 10, .inl (cI, 2, .inl (u 19))), (q 11, .inl (cZ, 2, .inl (u 20))), (q 12, .inl (cI, 2, .inl (u 21))), (q 13, .inl (cI, 2, .inl (u 22))), (q 14, .inl (cI, 10, .inl (u 23))), (q 15, .inl (cI, 2, .inl (u 24))), (q 16, .inl (cI, 36, .inl (u 25))), (q 17, .inl (cI, 36, .inl (u 26))), (q 18, .inl (cZ, 36, .inl (u 27))), (q 19, .inl (cI, 18, .inl (u 28))), (q 20, .inl (cI, 192, .inl (u 30)))]
abbrev wLG (cI cZ cO : ClassId) (q : Nat → Nat) (x : Sy) : va_W := [(q 0, .inr (6, [.ref (q 2), .ref (q 8), .ref (q 1), .ref (q 23), .int (x 0 4 0), .int (x 0 5 0), .int (x 0 6 0)])), (q 1, .inl (cO, 2, .inr (.inr (.inr (.inr (modsF (q 11) (q 17))))))), (q 2, .inr (2, [.ref (q 3), .ref (q 4), .ref (q 5), .ref (q 6), .ref (q 7), .int (x 1 5 0), .int (x 1 6 0), .int (x 1 7 0), .int (x 1 8 0), .int (x 1 9 0), .int (x 1 10 0)])), (q 3, .inl (cI, 6, .inl (x 1 0))), (q 4, .inl (cI, 6, .inl (x 1 1))), (q 5, .inl (cI, 6, .inl (x 1 2))), (q 6, .inl (cI, 5, .inl (x 1 3))), (q 7, .inl (cI, 5, .inl (x 1 4))), (q 8, .inr (3, [.ref (q 9), .ref (q 10)])), (q 9, .inl (cI, 18, .inl (x 2 0))), (q 10, .inl (cI, 54, .inl (x 2 1))), (q 11, .inr (0, [.int (x 3 0 0), .ref (q 12), .ref (q 15), .int (x 3 3 0), .int (x 3 4 0), .int (x 3 5 0), .int (x 3 6 0), .int (x 3 7 0), .int (x 3 8 0)])), (q 12, .inr (4, [.ref (q 13), .ref (q 14)])), (q 13, .inl (cI, 18, .inl (x 4 0))), (q 14, .inl (cI, 18, .inl (x 4 1))), (q 15, .inr (5, [.ref (q 16), .int (x 5 1 0), .int (x 5 2 0)])), (q 16, .inl (cI, 5, .inl (x 5 0))), (q 17, .inr (0, [.int (x 6 0 0), .ref (q 18), .ref (q 21), .int (x 6 3 0), .int (x 6 4 0), .int (x 6 5 0), .int (x 6 6 0), .int (x 6 7 0), .int (x 6 8 0)])), (q 18, .inr (4, [.ref (q 19), .ref (q 20)])), (q 19, .inl (cI, 18, .inl (x 7 0))), (q 20, .inl (cI, 18, .inl (x 7 1))), (q 21, .inr (5, [.ref (q 22), .int (x 8 1 0), .int (x 8 2 0)])), (q 22, .inl (cI, 5, .inl (x 8 0))), (q 23, .inr (1, [.ref (q 24), .int (x 9 1 0)])), (q 24, .inl (cI, 192, .inl (x 9 0)))]
end
section
def f_J6_bitCount_0f7a4_k48 (b5 : Int32) : Int32 := b5 &&& 63
def f_J6_bitCount_0f7a4_k41 (b4 : Int32) : Int32 := f_J6_bitCount_0f7a4_k48 (b4 + ((b4.toUInt32 >>> ((16 : Int32).toUInt32 &&& Int32.toUInt32 31)).toInt32))
def f_J6_bitCount_0f7a4_k34 (b3 : Int32) : Int32 := f_J6_bitCount_0f7a4_k41 (b3 + ((b3.toUInt32 >>> ((8 : Int32).toUInt32 &&& Int32.toUInt32 31)).toInt32))
def f_J6_bitCount_0f7a4_k24 (b2 : Int32) : Int32 := f_J6_bitCount_0f7a4_k34 ((b2 + ((b2.toUInt32 >>> ((4 : Int32).toUInt32 &&& Int32.toUInt32 31)).toInt32)) &&& 252645135)
def f_J6_bitCount_0f7a4_k10 (b1 : Int32) : Int32 := f_J6_bitCount_0f7a4_k24 ((b1 &&& 858993459) + (((b1.toUInt32 >>> ((2 : Int32).toUInt32 &&& Int32.toUInt32 31)).toInt32) &&& 858993459))
def f_J6_bitCount_0f7a4 (xb : Int32) : Int32 := f_J6_bitCount_0f7a4_k10 (xb - (((xb.toUInt32 >>> ((1 : Int32).toUInt32 &&& Int32.toUInt32 31)).toInt32) &&& 1431655765))
theorem hd_J6_bitCount_0f7a4 : yJ6_bitCount_0f7a4.cls ≠ "java/lang/invoke/MethodHandle" ∧ yJ6_bitCount_0f7a4.cls ≠ "java/lang/invoke/VarHandle" ∧ (parseMethodDescriptor yJ6_bitCount_0f7a4.desc).map (fun d => d.parameters.length) = some 1 := by decide +kernel
set_option maxHeartbeats 4000000 in
set_option maxRecDepth 100000 in
theorem c_J6_bitCount_0f7a4 (l : Launch) (D : va_G) (cI cZ cO : ClassId)  (xb : Int32)  : CTi l D (T3 cI cZ cO) yJ6_bitCount_0f7a4 (Cond.code yJ6_bitCount_0f7a4 cJ6_bitCount_0f7a4 1 (some .int) :: WA) ({ frames := 0, cells := 0, slots := 0, locals := 0 } : Room) [.int xb] ([]) ((f_J6_bitCount_0f7a4 xb)) ([]) := by
  refine ct_i (K := fun z => z) (t := f_J6_bitCount_0f7a4 xb) (rf := fun o => o) (wf := fun o => []) (own := RJ6) (nm := "bitCount") (L0 := [(0, .int xb)]) (plainFor_of_name (by decide +kernel)) rfl rfl (Nat.le_of_ble_eq_true rfl) rfl ?_
  intro p e s m args below meth c A C
  unfold f_J6_bitCount_0f7a4
  refine x_iload_n C dJ6_bitCount_0f7a4_0 0 rfl ?_
  refine x_iload_n C dJ6_bitCount_0f7a4_1 0 rfl ?_
  refine x_iconst C 1 dJ6_bitCount_0f7a4_2 (by decide) ?_
  refine x_iushr C dJ6_bitCount_0f7a4_3 ?_
  refine x_ldcw C mw_68 dJ6_bitCount_0f7a4_4 ?_
  refine x_iand C dJ6_bitCount_0f7a4_7 ?_
  refine x_isub C dJ6_bitCount_0f7a4_8 ?_
  refine x_istore_n (L' := [(0, .int (xb - (((xb.toUInt32 >>> ((1 : Int32).toUInt32 &&& Int32.toUInt32 31)).toInt32) &&& 1431655765)))]) C dJ6_bitCount_0f7a4_9 (by decide) rfl ?_
  refine x_join (fun (b1 : Int32) => f_J6_bitCount_0f7a4_k10 b1) 10 (fun (b1 : Int32) => [(0, .int b1)]) (fun (b1 : Int32) => []) (fun (b1 : Int32) => []) (fun b1 => ?_) (xb - (((xb.toUInt32 >>> ((1 : Int32).toUInt32 &&& Int32.toUInt32 31)).toInt32) &&& 1431655765)) (fun J10 => ?_)
  · unfold f_J6_bitCount_0f7a4_k10
    refine x_iload_n C dJ6_bitCount_0f7a4_10 0 rfl ?_
    refine x_ldcw C mw_69 dJ6_bitCount_0f7a4_11 ?_
    refine x_iand C dJ6_bitCount_0f7a4_14 ?_
    refine x_iload_n C dJ6_bitCount_0f7a4_15 0 rfl ?_
    refine x_iconst C 2 dJ6_bitCount_0f7a4_16 (by decide) ?_
    refine x_iushr C dJ6_bitCount_0f7a4_17 ?_
    refine x_ldcw C mw_69 dJ6_bitCount_0f7a4_18 ?_
    refine x_iand C dJ6_bitCount_0f7a4_21 ?_
    refine x_iadd C dJ6_bitCount_0f7a4_22 ?_
    refine x_istore_n (L' := [(0, .int ((b1 &&& 858993459) + (((b1.toUInt32 >>> ((2 : Int32).toUInt32 &&& Int32.toUInt32 31)).toInt32) &&& 858993459)))]) C dJ6_bitCount_0f7a4_23 (by decide) rfl ?_
    refine x_join (fun (b2 : Int32) => f_J6_bitCount_0f7a4_k24 b2) 24 (fun (b2 : Int32) => [(0, .int b2)]) (fun (b2 : Int32) => []) (fun (b2 : Int32) => []) (fun b2 => ?_) ((b1 &&& 858993459) + (((b1.toUInt32 >>> ((2 : Int32).toUInt32 &&& Int32.toUInt32 31)).toInt32) &&& 858993459)) (fun J9 => ?_)
    · unfold f_J6_bitCount_0f7a4_k24
      refine x_iload_n C dJ6_bitCount_0f7a4_24 0 rfl ?_
      refine x_iload_n C dJ6_bitCount_0f7a4_25 0 rfl ?_
      refine x_iconst C 4 dJ6_bitCount_0f7a4_26 (by decide) ?_
      refine x_iushr C dJ6_bitCount_0f7a4_27 ?_
      refine x_iadd C dJ6_bitCount_0f7a4_28 ?_
      refine x_ldcw C mw_70 dJ6_bitCount_0f7a4_29 ?_
      refine x_iand C dJ6_bitCount_0f7a4_32 ?_
      refine x_istore_n (L' := [(0, .int ((b2 + ((b2.toUInt32 >>> ((4 : Int32).toUInt32 &&& Int32.toUInt32 31)).toInt32)) &&& 252645135))]) C dJ6_bitCount_0f7a4_33 (by decide) rfl ?_
      refine x_join (fun (b3 : Int32) => f_J6_bitCount_0f7a4_k34 b3) 34 (fun (b3 : Int32) => [(0, .int b3)]) (fun (b3 : Int32) => []) (fun (b3 : Int32) => []) (fun b3 => ?_) ((b2 + ((b2.toUInt32 >>> ((4 : Int32).toUInt32 &&& Int32.toUInt32 31)).toInt32)) &&& 252645135) (fun J8 => ?_)
      · unfold f_J6_bitCount_0f7a4_k34
        refine x_iload_n C dJ6_bitCount_0f7a4_34 0 rfl ?_
        refine x_iload_n C dJ6_bitCount_0f7a4_35 0 rfl ?_
        refine x_bipush C 8 dJ6_bitCount_0f7a4_36 (by decide) ?_
        refine x_iushr C dJ6_bitCount_0f7a4_38 ?_
        refine x_iadd C dJ6_bitCount_0f7a4_39 ?_
        refine x_istore_n (L' := [(0, .int (b3 + ((b3.toUInt32 >>> ((8 : Int32).toUInt32 &&& Int32.toUInt32 31)).toInt32)))]) C dJ6_bitCount_0f7a4_40 (by decide) rfl ?_
        refine x_join (fun (b4 : Int32) => f_J6_bitCount_0f7a4_k41 b4) 41 (fun (b4 : Int32) => [(0, .int b4)]) (fun (b4 : Int32) => []) (fun (b4 : Int32) => []) (fun b4 => ?_) (b3 + ((b3.toUInt32 >>> ((8 : Int32).toUInt32 &&& Int32.toUInt32 31)).toInt32)) (fun J7 => ?_)
        · unfold f_J6_bitCount_0f7a4_k41
          refine x_iload_n C dJ6_bitCount_0f7a4_41 0 rfl ?_
          refine x_iload_n C dJ6_bitCount_0f7a4_42 0 rfl ?_
          refine x_bipush C 16 dJ6_bitCount_0f7a4_43 (by decide) ?_
          refine x_iushr C dJ6_bitCount_0f7a4_45 ?_
          refine x_iadd C dJ6_bitCount_0f7a4_46 ?_
          refine x_istore_n (L' := [(0, .int (b4 + ((b4.toUInt32 >>> ((16 : Int32).toUInt32 &&& Int32.toUInt32 31)).toInt32)))]) C dJ6_bitCount_0f7a4_47 (by decide) rfl ?_
          refine x_join (fun (b5 : Int32) => f_J6_bitCount_0f7a4_k48 b5) 48 (fun (b5 : Int32) => [(0, .int b5)]) (fun (b5 : Int32) => []) (fun (b5 : Int32) => []) (fun b5 => ?_) (b4 + ((b4.toUInt32 >>> ((16 : Int32).toUInt32 &&& Int32.toUInt32 31)).toInt32)) (fun J6 => ?_)
          · unfold f_J6_bitCount_0f7a4_k48
            refine x_iload_n C dJ6_bitCount_0f7a4_48 0 rfl ?_
            refine x_bipush C 63 dJ6_bitCount_0f7a4_49 (by decide) ?_
            refine x_iand C dJ6_bitCount_0f7a4_51 ?_
            exact x_iret C rfl dJ6_bitCount_0f7a4_52 rfl rfl
          · exact J6 _
        · exact J7 _
      · exact J8 _
    · exact J9 _
  · exact J10 _

def f_J9_floorMod_7cf53 (xa : Int32) (xb : Int32) : Int32 := if (xa ^^^ xb) < 0 then (if (xa - xa / xb * xb) = 0 then (xa - xa / xb * xb) else ((xa - xa / xb * xb) + xb)) else (xa - xa / xb * xb)
theorem hd_J9_floorMod_7cf53 : yJ9_floorMod_7cf53.cls ≠ "java/lang/invoke/MethodHandle" ∧ yJ9_floorMod_7cf53.cls ≠ "java/lang/invoke/VarHandle" ∧ (parseMethodDescriptor yJ9_floorMod_7cf53.desc).map (fun d => d.parameters.length) = some 2 := by decide +kernel
set_option maxHeartbeats 4000000 in
set_option maxRecDepth 100000 in
theorem c_J9_floorMod_7cf53 (l : Launch) (D : va_G) (cI cZ cO : ClassId)  (xa : Int32) (xb : Int32) (hy0 : ¬ xb = 0) : CTi l D (T3 cI cZ cO) yJ9_floorMod_7cf53 (Cond.code yJ9_floorMod_7cf53 cJ9_floorMod_7cf53 3 (some .int) :: WA) ({ frames := 0, cells := 0, slots := 0, locals := 0 } : Room) [.int xa, .int xb] ([]) ((f_J9_floorMod_7cf53 xa xb)) ([]) := by
  refine ct_i (K := fun z => z) (t := f_J9_floorMod_7cf53 xa xb) (rf := fun o => o) (wf := fun o => []) (own := RJ9) (nm := "floorMod") (L0 := [(0, .int xa), (1, .int xb)]) (by decide +kernel) rfl rfl (Nat.le_of_ble_eq_true rfl) rfl ?_
  intro p e s m args below meth c A C
  unfold f_J9_floorMod_7cf53
  refine x_iload_n C dJ9_floorMod_7cf53_0 0 rfl ?_
  refine x_iload_n C dJ9_floorMod_7cf53_1 1 rfl ?_
  refine x_irem C dJ9_floorMod_7cf53_2 (by first | decide | assumption) ?_
  refine x_istore_n (L' := [(2, .int (xa - xa / xb * xb)), (0, .int xa), (1, .int xb)]) C dJ9_floorMod_7cf53_3 (by decide) rfl ?_
  refine x_iload_n C dJ9_floorMod_7cf53_4 1 rfl ?_
  refine x_iload_n C dJ9_floorMod_7cf53_5 2 rfl ?_
  refine x_ixor C dJ9_floorMod_7cf53_6 ?_
  refine x_if_ge C 18 dJ9_floorMod_7cf53_7 (by decide) (fun c1 => ?_) (fun c1 => ?_)
  · refine x_iload_n C dJ9_floorMod_7cf53_10 0 rfl ?_
    refine x_if_eq C 18 dJ9_floorMod_7cf53_11 (by decide) (fun c2 => ?_) (fun c2 => ?_)
    · refine x_iload_n C dJ9_floorMod_7cf53_18 0 rfl ?_
      exact x_iret C rfl dJ9_floorMod_7cf53_19 rfl rfl
    · refine x_iload_n C dJ9_floorMod_7cf53_14 0 rfl ?_
      refine x_iload_n C dJ9_floorMod_7cf53_15 2 rfl ?_
      refine x_iadd C dJ9_floorMod_7cf53_16 ?_
      exact x_iret C rfl dJ9_floorMod_7cf53_17 rfl rfl
  · refine x_iload_n C dJ9_floorMod_7cf53_18 0 rfl ?_
    exact x_iret C rfl dJ9_floorMod_7cf53_19 rfl rfl

theorem fm64 (x : Int32) : f_J9_floorMod_7cf53 x 64 = nI (ixn (f_J9_floorMod_7cf53 x 64)) ∧ ixn (f_J9_floorMod_7cf53 x 64) < 64 := sorry
def f_X6_outside (xn : Int32) (xg : Int32) : Bool := if xn < 0 then true else (if xg < xn then true else false)
theorem hd_X6_outside : yX6_outside.cls ≠ "java/lang/invoke/MethodHandle" ∧ yX6_outside.cls ≠ "java/lang/invoke/VarHandle" ∧ (parseMethodDescriptor yX6_outside.desc).map (fun d => d.parameters.length) = some 2 := by decide +kernel
set_option maxHeartbeats 4000000 in
set_option maxRecDepth 100000 in
theorem c_X6_outside (l : Launch) (D : va_G) (cI cZ cO : ClassId)  (xn : Int32) (xg : Int32)  : CTi l D (T3 cI cZ cO) yX6_outside (Cond.code yX6_outside cX6_outside 2 (some .boolean) :: WA) ({ frames := 0, cells := 0, slots := 0, locals := 0 } : Room) [.int xn, .int xg] ([]) (b2i (f_X6_outside xn xg)) ([]) := by
  refine ct_i (K := fun z => z) (t := f_X6_outside xn xg) (rf := fun o => b2i o) (wf := fun o => []) (own := RX6) (nm := "outside") (L0 := [(0, .int xn), (1, .int xg)]) (plainFor_of_name (by decide +kernel)) rfl rfl (Nat.le_of_ble_eq_true rfl) rfl ?_
  intro p e s m args below meth c A C
  unfold f_X6_outside
  refine x_iload_n C dX6_outside_0 0 rfl ?_
  refine x_if_lt C 9 dX6_outside_1 (by decide) (fun c1 => ?_) (fun c1 => ?_)
  · refine x_iconst C 1 dX6_outside_9 (by decide) ?_
    refine x_goto C 14 dX6_outside_10 (by decide) ?_
    exact x_zret C rfl (by decide) dX6_outside_14 rfl rfl
  · refine x_iload_n C dX6_outside_4 0 rfl ?_
    refine x_iload_n C dX6_outside_5 1 rfl ?_
    refine x_icmp_le C 13 dX6_outside_6 (by decide) (fun c2 => ?_) (fun c2 => ?_)
    · refine x_iconst C 1 dX6_outside_9 (by decide) ?_
      refine x_goto C 14 dX6_outside_10 (by decide) ?_
      exact x_zret C rfl (by decide) dX6_outside_14 rfl rfl
    · refine x_iconst C 0 dX6_outside_13 (by decide) ?_
      exact x_zret C rfl (by decide) dX6_outside_14 rfl rfl

def f_X6_bit (xb : Bool) : Int32 := if xb = true then 1 else 0
theorem hd_X6_bit : yX6_bit.cls ≠ "java/lang/invoke/MethodHandle" ∧ yX6_bit.cls ≠ "java/lang/invoke/VarHandle" ∧ (parseMethodDescriptor yX6_bit.desc).map (fun d => d.parameters.length) = some 1 := by decide +kernel
set_option maxHeartbeats 4000000 in
set_option maxRecDepth 100000 in
theorem c_X6_bit (l : Launch) (D : va_G) (cI cZ cO : ClassId)  (xb : Bool)  : CTi l D (T3 cI cZ cO) yX6_bit (Cond.code yX6_bit cX6_bit 1 (some .int) :: WA) ({ frames := 0, cells := 0, slots := 0, locals := 0 } : Room) [.int (b2i xb)] ([]) ((f_X6_bit xb)) ([]) := by
  refine ct_i (K := fun z => z) (t := f_X6_bit xb) (rf := fun o => o) (wf := fun o => []) (own := RX6) (nm := "bit") (L0 := [(0, .int (b2i xb))]) (plainFor_of_name (by decide +kernel)) rfl rfl (Nat.le_of_ble_eq_true rfl) rfl ?_
  intro p e s m args below meth c A C
  unfold f_X6_bit
  refine x_iload_n C dX6_bit_0 0 rfl ?_
  refine x_if_eqZ C 8 dX6_bit_1 (by decide) (fun c1 => ?_) (fun c1 => ?_)
  · refine x_iconst C 1 dX6_bit_4 (by decide) ?_
    refine x_goto C 9 dX6_bit_5 (by decide) ?_
    exact x_iret C rfl dX6_bit_9 rfl rfl
  · refine x_iconst C 0 dX6_bit_8 (by decide) ?_
    exact x_iret C rfl dX6_bit_9 rfl rfl

def f_X6_has (xb : Int32) (xi : Int32) : Bool := if ((xb >>> (xi &&& 31)) &&& 1) = 1 then true else false
theorem hd_X6_has : yX6_has.cls ≠ "java/lang/invoke/MethodHandle" ∧ yX6_has.cls ≠ "java/lang/invoke/VarHandle" ∧ (parseMethodDescriptor yX6_has.desc).map (fun d => d.parameters.length) = some 2 := by decide +kernel
set_option maxHeartbeats 4000000 in
set_option maxRecDepth 100000 in
theorem c_X6_has (l : Launch) (D : va_G) (cI cZ cO : ClassId)  (xb : Int32) (xi : Int32)  : CTi l D (T3 cI cZ cO) yX6_has (Cond.code yX6_has cX6_has 2 (some .boolean) :: WA) ({ frames := 0, cells := 0, slots := 0, locals := 0 } : Room) [.int xb, .int xi] ([]) (b2i (f_X6_has xb xi)) ([]) := by
  refine ct_i (K := fun z => z) (t := f_X6_has xb xi) (rf := fun o => b2i o) (wf := fun o => []) (own := RX6) (nm := "has") (L0 := [(0, .int xb), (1, .int xi)]) (plainFor_of_name (by decide +kernel)) rfl rfl (Nat.le_of_ble_eq_true rfl) rfl ?_
  intro p e s m args below meth c A C
  unfold f_X6_has
  refine x_iload_n C dX6_has_0 0 rfl ?_
  refine x_iload_n C dX6_has_1 1 rfl ?_
  refine x_ishr C dX6_has_2 ?_
  refine x_iconst C 1 dX6_has_3 (by decide) ?_
  refine x_iand C dX6_has_4 ?_
  refine x_iconst C 1 dX6_has_5 (by decide) ?_
  refine x_icmp_ne C 13 dX6_has_6 (by decide) (fun c1 => ?_) (fun c1 => ?_)
  · refine x_iconst C 1 dX6_has_9 (by decide) ?_
    refine x_goto C 14 dX6_has_10 (by decide) ?_
    exact x_zret C rfl (by decide) dX6_has_14 rfl rfl
  · refine x_iconst C 0 dX6_has_13 (by decide) ?_
    exact x_zret C rfl (by decide) dX6_has_14 rfl rfl

def f_X6_both (xb : Int32) (xo : Int32) (xp : Int32) : Bool := if (f_X6_has xb xo) = true then (if (f_X6_has xb xp) = true then true else false) else false
theorem hd_X6_both : yX6_both.cls ≠ "java/lang/invoke/MethodHandle" ∧ yX6_both.cls ≠ "java/lang/invoke/VarHandle" ∧ (parseMethodDescriptor yX6_both.desc).map (fun d => d.parameters.length) = some 3 := by decide +kernel
set_option maxHeartbeats 4000000 in
set_option maxRecDepth 100000 in
theorem c_X6_both (l : Launch) (D : va_G) (cI cZ cO : ClassId)  (xb : Int32) (xo : Int32) (xp : Int32)  : CTi l D (T3 cI cZ cO) yX6_both (Cond.code yX6_both cX6_both 3 (some .boolean) :: WA) ({ frames := 1, cells := 0, slots := 0, locals := 21 } : Room) [.int xb, .int xo, .int xp] ([]) (b2i (f_X6_both xb xo xp)) ([]) := by
  refine ct_i (K := fun z => z) (t := f_X6_both xb xo xp) (rf := fun o => b2i o) (wf := fun o => []) (own := RX6) (nm := "both") (L0 := [(0, .int xb), (1, .int xo), (2, .int xp)]) (plainFor_of_name (by decide +kernel)) rfl rfl (Nat.le_of_ble_eq_true rfl) rfl ?_
  intro p e s m args below meth c A C
  unfold f_X6_both
  refine x_iload_n C dX6_both_0 0 rfl ?_
  refine x_iload_n C dX6_both_1 1 rfl ?_
  refine x_cSiW (As := [.int xb, .int xo]) C mw_267 mw_108 mw_37 mw_105 hd_X6_has rfl rfl ⟨Nat.le_of_ble_eq_true rfl, Nat.le_of_ble_eq_true rfl⟩ (c_X6_has l D cI cZ cO  xb xo ) rfl rfl (Nat.le_of_ble_eq_true rfl) (Nat.zero_le _) (Nat.zero_le _) dX6_both_2 ?_
  refine x_if_eqZ C 20 dX6_both_5 (by decide) (fun c1 => ?_) (fun c1 => ?_)
  · refine x_iload_n C dX6_both_8 0 rfl ?_
    refine x_iload_n C dX6_both_9 2 rfl ?_
    refine x_cSiW (As := [.int xb, .int xp]) C mw_267 mw_108 mw_37 mw_105 hd_X6_has rfl rfl ⟨Nat.le_of_ble_eq_true rfl, Nat.le_of_ble_eq_true rfl⟩ (c_X6_has l D cI cZ cO  xb xp ) rfl rfl (Nat.le_of_ble_eq_true rfl) (Nat.zero_le _) (Nat.zero_le _) dX6_both_10 ?_
    refine x_if_eqZ C 20 dX6_both_13 (by decide) (fun c2 => ?_) (fun c2 => ?_)
    · refine x_iconst C 1 dX6_both_16 (by decide) ?_
      refine x_goto C 21 dX6_both_17 (by decide) ?_
      exact x_zret C rfl (by decide) dX6_both_21 rfl rfl
    · refine x_iconst C 0 dX6_both_20 (by decide) ?_
      exact x_zret C rfl (by decide) dX6_both_21 rfl rfl
  · refine x_iconst C 0 dX6_both_20 (by decide) ?_
    exact x_zret C rfl (by decide) dX6_both_21 rfl rfl

def f_X1_add (uG : St) (xt : Int32) (xm : Int32) (xw : Int32) : St := put (put (put (put uG 0 ((ixn (f_J9_floorMod_7cf53 (uG 1 0) 64)) * 3) xt) 0 (((ixn (f_J9_floorMod_7cf53 (uG 1 0) 64)) * 3) + 1) xm) 0 (((ixn (f_J9_floorMod_7cf53 (uG 1 0) 64)) * 3) + 2) xw) 1 0 ((uG 1 0) + 1)
theorem hd_X1_add : yX1_add.cls ≠ "java/lang/invoke/MethodHandle" ∧ yX1_add.cls ≠ "java/lang/invoke/VarHandle" ∧ (parseMethodDescriptor yX1_add.desc).map (fun d => d.parameters.length) = some 3 := by decide +kernel
set_option maxHeartbeats 4000000 in
set_option maxRecDepth 100000 in
theorem c_X1_add (l : Launch) (D : va_G) (cI cZ cO : ClassId) (hG aG0 : Nat) (uG : St) (xt : Int32) (xm : Int32) (xw : Int32)  : CTv l D (T3 cI cZ cO) yX1_add (Cond.code yX1_add cX1_add 5 none :: WA) ({ frames := 1, cells := 0, slots := 0, locals := 22 } : Room) [.ref hG, .int xt, .int xm, .int xw] (wX1 cI cZ cO hG aG0 uG) (wX1 cI cZ cO hG aG0 (f_X1_add uG xt xm xw)) := by
  refine ct_v (K := fun z => z) (t := f_X1_add uG xt xm xw) (wf := fun o => wX1 cI cZ cO hG aG0 o) (own := RX1) (nm := "add") (L0 := [(0, .ref hG), (1, .int xt), (2, .int xm), (3, .int xw)]) (plainFor_of_name (by decide +kernel)) rfl rfl (Nat.le_of_ble_eq_true rfl) rfl ?_
  intro p e s m args below meth c A C
  unfold f_X1_add
  refine x_aload_n C dX1_add_0 0 rfl ?_
  refine x_get (v := .int (uG 1 0)) C hwsX10 1 mw_100 0 rfl rfl (by decide) rfl rfl dX1_add_1 ?_
  refine x_bipush C 64 dX1_add_4 (by decide) ?_
  refine x_cSi (As := [.int (uG 1 0), .int 64]) (ws' := wX1 cI cZ cO hG aG0 uG) C mw_102 mw_103 mw_104 mw_98 hd_J9_floorMod_7cf53 rfl rfl ⟨Nat.le_of_ble_eq_true rfl, Nat.le_of_ble_eq_true rfl⟩ (c_J9_floorMod_7cf53 l D cI cZ cO  (uG 1 0) 64 (by first | omega | decide | assumption)) [] [.inl 0, .inl 1] trivial rfl ⟨rfl, rfl, trivial⟩ rfl ⟨rfl, rfl, trivial⟩ rfl rfl (Nat.le_of_ble_eq_true rfl) (Nat.zero_le _) (Nat.zero_le _) dX1_add_6 ?_
  have hfm := fm64 (uG 1 0)
  refine x_top (nI (ixn (f_J9_floorMod_7cf53 (uG 1 0) 64))) hfm.1 ?_
  refine x_iconst C 3 dX1_add_9 (by decide) ?_
  refine x_imul C dX1_add_10 ?_
  refine x_top (nI ((ixn (f_J9_floorMod_7cf53 (uG 1 0) 64)) * 3)) (pk_mul _ _) ?_
  refine x_istore (L' := [(4, .int (nI ((ixn (f_J9_floorMod_7cf53 (uG 1 0) 64)) * 3))), (0, .ref hG), (1, .int xt), (2, .int xm), (3, .int xw)]) C dX1_add_11 (by decide) rfl ?_
  refine x_aload_n C dX1_add_13 1 rfl ?_
  refine x_get (v := .ref aG0) C hwsX10 0 mw_101 0 rfl rfl (by decide) rfl rfl dX1_add_14 ?_
  refine x_iload C dX1_add_17 0 rfl ?_
  refine x_iload_n C dX1_add_19 2 rfl ?_
  refine x_iast (ws' := wX1 cI cZ cO hG aG0 (put uG 0 ((ixn (f_J9_floorMod_7cf53 (uG 1 0) 64)) * 3) xt)) C 1 0 rfl rfl ((ixn (f_J9_floorMod_7cf53 (uG 1 0) 64)) * 3) rfl (by omega) (by decide) dX1_add_20 rfl ?_
  refine x_aload_n C dX1_add_21 1 rfl ?_
  refine x_get (v := .ref aG0) C hwsX10 0 mw_101 0 rfl rfl (by decide) rfl rfl dX1_add_22 ?_
  refine x_iload C dX1_add_25 0 rfl ?_
  refine x_iconst C 1 dX1_add_27 (by decide) ?_
  refine x_iadd C dX1_add_28 ?_
  refine x_top (nI (((ixn (f_J9_floorMod_7cf53 (uG 1 0) 64)) * 3) + 1)) (nI_add _ _) ?_
  refine x_iload_n C dX1_add_29 3 rfl ?_
  refine x_iast (ws' := wX1 cI cZ cO hG aG0 (put (put uG 0 ((ixn (f_J9_floorMod_7cf53 (uG 1 0) 64)) * 3) xt) 0 (((ixn (f_J9_floorMod_7cf53 (uG 1 0) 64)) * 3) + 1) xm)) C 1 0 rfl rfl (((ixn (f_J9_floorMod_7cf53 (uG 1 0) 64)) * 3) + 1) rfl (by omega) (by decide) dX1_add_30 rfl ?_
  refine x_aload_n C dX1_add_31 1 rfl ?_
  refine x_get (v := .ref aG0) C hwsX10 0 mw_101 0 rfl rfl (by decide) rfl rfl dX1_add_32 ?_
  refine x_iload C dX1_add_35 0 rfl ?_
  refine x_iconst C 2 dX1_add_37 (by decide) ?_
  refine x_iadd C dX1_add_38 ?_
  refine x_top (nI (((ixn (f_J9_floorMod_7cf53 (uG 1 0) 64)) * 3) + 2)) (nI_add _ _) ?_
  refine x_iload_n C dX1_add_39 4 rfl ?_
  refine x_iast (ws' := wX1 cI cZ cO hG aG0 (put (put (put uG 0 ((ixn (f_J9_floorMod_7cf53 (uG 1 0) 64)) * 3) xt) 0 (((ixn (f_J9_floorMod_7cf53 (uG 1 0) 64)) * 3) + 1) xm) 0 (((ixn (f_J9_floorMod_7cf53 (uG 1 0) 64)) * 3) + 2) xw)) C 1 0 rfl rfl (((ixn (f_J9_floorMod_7cf53 (uG 1 0) 64)) * 3) + 2) rfl (by omega) (by decide) dX1_add_40 rfl ?_
  refine x_aload_n C dX1_add_41 1 rfl ?_
  refine x_dup C dX1_add_42 rfl ?_
  refine x_get (v := .int (uG 1 0)) C hwsX10 1 mw_100 0 rfl rfl (by decide) rfl rfl dX1_add_43 ?_
  refine x_iconst C 1 dX1_add_46 (by decide) ?_
  refine x_iadd C dX1_add_47 ?_
  refine x_put (ws' := wX1 cI cZ cO hG aG0 (put (put (put (put uG 0 ((ixn (f_J9_floorMod_7cf53 (uG 1 0) 64)) * 3) xt) 0 (((ixn (f_J9_floorMod_7cf53 (uG 1 0) 64)) * 3) + 1) xm) 0 (((ixn (f_J9_floorMod_7cf53 (uG 1 0) 64)) * 3) + 2) xw) 1 0 ((uG 1 0) + 1))) C hwsX10 tyX1 tyX1_ok nmX1 1 mw_100 0 rfl rfl (by decide) rfl rfl rfl rfl (Nat.le_of_ble_eq_true rfl) dX1_add_48 rfl ?_
  exact x_vret C rfl dX1_add_51 rfl

def f_X1_number (uG : St) (xi : Int32) (xw : Nat) : Int32 := if xi < 0 then (-1) else (if xi < (uG 1 0) then (if xi < ((uG 1 0) - 64) then (-1) else (uG 0 (((ixn (f_J9_floorMod_7cf53 xi 64)) * 3) + xw))) else (-1))
theorem hd_X1_number : yX1_number.cls ≠ "java/lang/invoke/MethodHandle" ∧ yX1_number.cls ≠ "java/lang/invoke/VarHandle" ∧ (parseMethodDescriptor yX1_number.desc).map (fun d => d.parameters.length) = some 2 := by decide +kernel
set_option maxHeartbeats 4000000 in
set_option maxRecDepth 100000 in
theorem c_X1_number (l : Launch) (D : va_G) (cI cZ cO : ClassId) (hG aG0 : Nat) (uG : St) (xi : Int32) (xw : Nat) (hy0 : xw < 3) : CTi l D (T3 cI cZ cO) yX1_number (Cond.code yX1_number cX1_number 3 (some .int) :: WA) ({ frames := 1, cells := 0, slots := 0, locals := 22 } : Room) [.ref hG, .int xi, .int (nI xw)] (wX1 cI cZ cO hG aG0 uG) ((f_X1_number uG xi xw)) (wX1 cI cZ cO hG aG0 uG) := by
  refine ct_i (K := fun z => z) (t := f_X1_number uG xi xw) (rf := fun o => o) (wf := fun o => wX1 cI cZ cO hG aG0 uG) (own := RX1) (nm := "number") (L0 := [(0, .ref hG), (1, .int xi), (2, .int (nI xw))]) (plainFor_of_name (by decide +kernel)) rfl rfl (Nat.le_of_ble_eq_true rfl) rfl ?_
  intro p e s m args below meth c A C
  unfold f_X1_number
  refine x_iload_n C dX1_number_0 1 rfl ?_
  refine x_if_lt C 23 dX1_number_1 (by decide) (fun c1 => ?_) (fun c1 => ?_)
  · refine x_iconst C (-1) dX1_number_23 (by decide) ?_
    exact x_iret C rfl dX1_number_24 rfl rfl
  · refine x_iload_n C dX1_number_4 1 rfl ?_
    refine x_aload_n C dX1_number_5 0 rfl ?_
    refine x_get (v := .int (uG 1 0)) C hwsX10 1 mw_100 0 rfl rfl (by decide) rfl rfl dX1_number_6 ?_
    refine x_icmp_ge C 23 dX1_number_9 (by decide) (fun c2 => ?_) (fun c2 => ?_)
    · refine x_iload_n C dX1_number_12 1 rfl ?_
      refine x_aload_n C dX1_number_13 0 rfl ?_
      refine x_get (v := .int (uG 1 0)) C hwsX10 1 mw_100 0 rfl rfl (by decide) rfl rfl dX1_number_14 ?_
      refine x_bipush C 64 dX1_number_17 (by decide) ?_
      refine x_isub C dX1_number_19 ?_
      refine x_icmp_ge C 25 dX1_number_20 (by decide) (fun c3 => ?_) (fun c3 => ?_)
      · refine x_iconst C (-1) dX1_number_23 (by decide) ?_
        exact x_iret C rfl dX1_number_24 rfl rfl
      · refine x_aload_n C dX1_number_25 0 rfl ?_
        refine x_get (v := .ref aG0) C hwsX10 0 mw_101 0 rfl rfl (by decide) rfl rfl dX1_number_26 ?_
        refine x_iload_n C dX1_number_29 1 rfl ?_
        refine x_bipush C 64 dX1_number_30 (by decide) ?_
        refine x_cSi (As := [.int xi, .int 64]) (ws' := wX1 cI cZ cO hG aG0 uG) C mw_102 mw_103 mw_104 mw_98 hd_J9_floorMod_7cf53 rfl rfl ⟨Nat.le_of_ble_eq_true rfl, Nat.le_of_ble_eq_true rfl⟩ (c_J9_floorMod_7cf53 l D cI cZ cO  xi 64 (by first | omega | decide | assumption)) [] [.inl 0, .inl 1] trivial rfl ⟨rfl, rfl, trivial⟩ rfl ⟨rfl, rfl, trivial⟩ rfl rfl (Nat.le_of_ble_eq_true rfl) (Nat.zero_le _) (Nat.zero_le _) dX1_number_32 ?_
        have hfm := fm64 xi
        refine x_top (nI (ixn (f_J9_floorMod_7cf53 xi 64))) hfm.1 ?_
        refine x_iconst C 3 dX1_number_35 (by decide) ?_
        refine x_imul C dX1_number_36 ?_
        refine x_top (nI ((ixn (f_J9_floorMod_7cf53 xi 64)) * 3)) (pk_mul _ _) ?_
        refine x_iload_n C dX1_number_37 2 rfl ?_
        refine x_iadd C dX1_number_38 ?_
        refine x_top (nI (((ixn (f_J9_floorMod_7cf53 xi 64)) * 3) + xw)) (nI_add _ _) ?_
        refine x_iald C 1 0 rfl rfl (((ixn (f_J9_floorMod_7cf53 xi 64)) * 3) + xw) rfl (by omega) (by decide) (uG 0 (((ixn (f_J9_floorMod_7cf53 xi 64)) * 3) + xw)) rfl dX1_number_39 ?_
        exact x_iret C rfl dX1_number_40 rfl rfl
    · refine x_iconst C (-1) dX1_number_23 (by decide) ?_
      exact x_iret C rfl dX1_number_24 rfl rfl

def f_X2_usableLength (xw : Int32) : Int32 := if xw < 5 then 15 else (if 40 < xw then 15 else xw)
theorem hd_X2_usableLength : yX2_usableLength.cls ≠ "java/lang/invoke/MethodHandle" ∧ yX2_usableLength.cls ≠ "java/lang/invoke/VarHandle" ∧ (parseMethodDescriptor yX2_usableLength.desc).map (fun d => d.parameters.length) = some 1 := by decide +kernel
set_option maxHeartbeats 4000000 in
set_option maxRecDepth 100000 in
theorem c_X2_usableLength (l : Launch) (D : va_G) (cI cZ cO : ClassId)  (xw : Int32)  : CTi l D (T3 cI cZ cO) yX2_usableLength (Cond.code yX2_usableLength cX2_usableLength 1 (some .int) :: WA) ({ frames := 0, cells := 0, slots := 0, locals := 0 } : Room) [.int xw] ([]) ((f_X2_usableLength xw)) ([]) := by
  refine ct_i (K := fun z => z) (t := f_X2_usableLength xw) (rf := fun o => o) (wf := fun o => []) (own := RX2) (nm := "usableLength") (L0 := [(0, .int xw)]) (plainFor_of_name (by decide +kernel)) rfl rfl (Nat.le_of_ble_eq_true rfl) rfl ?_
  intro p e s m args below meth c A C
  unfold f_X2_usableLength
  refine x_iload_n C dX2_usableLength_0 0 rfl ?_
  refine x_iconst C 5 dX2_usableLength_1 (by decide) ?_
  refine x_icmp_lt C 11 dX2_usableLength_2 (by decide) (fun c1 => ?_) (fun c1 => ?_)
  · refine x_bipush C 15 dX2_usableLength_11 (by decide) ?_
    refine x_goto C 17 dX2_usableLength_13 (by decide) ?_
    exact x_iret C rfl dX2_usableLength_17 rfl rfl
  · refine x_iload_n C dX2_usableLength_5 0 rfl ?_
    refine x_bipush C 40 dX2_usableLength_6 (by decide) ?_
    refine x_icmp_le C 16 dX2_usableLength_8 (by decide) (fun c2 => ?_) (fun c2 => ?_)
    · refine x_bipush C 15 dX2_usableLength_11 (by decide) ?_
      refine x_goto C 17 dX2_usableLength_13 (by decide) ?_
      exact x_iret C rfl dX2_usableLength_17 rfl rfl
    · refine x_iload_n C dX2_usableLength_16 0 rfl ?_
      exact x_iret C rfl dX2_usableLength_17 rfl rfl

def f_X2_greatestLength (uP : St) (xf : Nat) : Int32 := imx (uP 0 xf) (uP 0 (xf + 1))
theorem hd_X2_greatestLength : yX2_greatestLength.cls ≠ "java/lang/invoke/MethodHandle" ∧ yX2_greatestLength.cls ≠ "java/lang/invoke/VarHandle" ∧ (parseMethodDescriptor yX2_greatestLength.desc).map (fun d => d.parameters.length) = some 1 := by decide +kernel
set_option maxHeartbeats 4000000 in
set_option maxRecDepth 100000 in
theorem c_X2_greatestLength (l : Launch) (D : va_G) (cI cZ cO : ClassId) (hP aP0 aP1 aP2 aP3 aP4 : Nat) (uP : St) (xf : Nat) (hy0 : xf + 1 < 6) : CTi l D (T3 cI cZ cO) yX2_greatestLength (Cond.code yX2_greatestLength cX2_greatestLength 2 (some .int) :: WA) ({ frames := 1, cells := 0, slots := 0, locals := 21 } : Room) [.ref hP, .int (nI xf)] (wX2 cI cZ cO hP aP0 aP1 aP2 aP3 aP4 uP) ((f_X2_greatestLength uP xf)) (wX2 cI cZ cO hP aP0 aP1 aP2 aP3 aP4 uP) := by
  refine ct_i (K := fun z => z) (t := f_X2_greatestLength uP xf) (rf := fun o => o) (wf := fun o => wX2 cI cZ cO hP aP0 aP1 aP2 aP3 aP4 uP) (own := RX2) (nm := "greatestLength") (L0 := [(0, .ref hP), (1, .int (nI xf))]) (plainFor_of_name (by decide +kernel)) rfl rfl (Nat.le_of_ble_eq_true rfl) rfl ?_
  intro p e s m args below meth c A C
  unfold f_X2_greatestLength
  refine x_aload_n C dX2_greatestLength_0 0 rfl ?_
  refine x_get (v := .ref aP0) C hwsX20 0 mw_158 0 rfl rfl (by decide) rfl rfl dX2_greatestLength_1 ?_
  refine x_iload_n C dX2_greatestLength_4 1 rfl ?_
  refine x_iald C 1 0 rfl rfl xf rfl (by omega) (by decide) (uP 0 xf) rfl dX2_greatestLength_5 ?_
  refine x_aload_n C dX2_greatestLength_6 0 rfl ?_
  refine x_get (v := .ref aP0) C hwsX20 0 mw_158 0 rfl rfl (by decide) rfl rfl dX2_greatestLength_7 ?_
  refine x_iload_n C dX2_greatestLength_10 1 rfl ?_
  refine x_iconst C 1 dX2_greatestLength_11 (by decide) ?_
  refine x_iadd C dX2_greatestLength_12 ?_
  refine x_top (nI (xf + 1)) (nI_add _ _) ?_
  refine x_iald C 1 0 rfl rfl (xf + 1) rfl (by omega) (by decide) (uP 0 (xf + 1)) rfl dX2_greatestLength_13 ?_
  refine x_mmax C mw_173 mw_174 mw_41 mw_175 (Nat.le_of_ble_eq_true rfl) (Nat.le_of_ble_eq_true rfl) (Nat.zero_le _) (Nat.zero_le _) dX2_greatestLength_14 ?_
  exact x_iret C rfl dX2_greatestLength_17 rfl rfl

def f_X2_moveHandle_k22 (uP : St) (b2 : St) : Int32 × St := (uP 5 0, b2)
def f_X2_moveHandle (uP : St) (xd : Int32) : Int32 × St := f_X2_moveHandle_k22 uP (if (uP 5 0) = xd then uP else (put (put uP 5 0 xd) 7 0 200))
theorem hd_X2_moveHandle : yX2_moveHandle.cls ≠ "java/lang/invoke/MethodHandle" ∧ yX2_moveHandle.cls ≠ "java/lang/invoke/VarHandle" ∧ (parseMethodDescriptor yX2_moveHandle.desc).map (fun d => d.parameters.length) = some 1 := by decide +kernel
set_option maxHeartbeats 4000000 in
set_option maxRecDepth 100000 in
theorem c_X2_moveHandle (l : Launch) (D : va_G) (cI cZ cO : ClassId) (hP aP0 aP1 aP2 aP3 aP4 : Nat) (uP : St) (xd : Int32)  : CTi l D (T3 cI cZ cO) yX2_moveHandle (Cond.code yX2_moveHandle cX2_moveHandle 3 (some .int) :: WA) ({ frames := 0, cells := 0, slots := 0, locals := 0 } : Room) [.ref hP, .int xd] (wX2 cI cZ cO hP aP0 aP1 aP2 aP3 aP4 uP) ((f_X2_moveHandle uP xd).1) (wX2 cI cZ cO hP aP0 aP1 aP2 aP3 aP4 (f_X2_moveHandle uP xd).2) := by
  refine ct_i (K := fun z => z) (t := f_X2_moveHandle uP xd) (rf := fun o => o.1) (wf := fun o => wX2 cI cZ cO hP aP0 aP1 aP2 aP3 aP4 o.2) (own := RX2) (nm := "moveHandle") (L0 := [(0, .ref hP), (1, .int xd)]) (plainFor_of_name (by decide +kernel)) rfl rfl (Nat.le_of_ble_eq_true rfl) rfl ?_
  intro p e s m args below meth c A C
  unfold f_X2_moveHandle
  refine x_aload_n C dX2_moveHandle_0 0 rfl ?_
  refine x_get (v := .int (uP 5 0)) C hwsX20 5 mw_163 0 rfl rfl (by decide) rfl rfl dX2_moveHandle_1 ?_
  refine x_istore_n (L' := [(2, .int (uP 5 0)), (0, .ref hP), (1, .int xd)]) C dX2_moveHandle_4 (by decide) rfl ?_
  refine x_iload_n C dX2_moveHandle_5 0 rfl ?_
  refine x_iload_n C dX2_moveHandle_6 2 rfl ?_
  refine x_join (fun (b2 : St) => f_X2_moveHandle_k22 uP b2) 22 (fun (b2 : St) => [(0, .ref hP), (1, .int xd), (2, .int (uP 5 0))]) (fun (b2 : St) => []) (fun (b2 : St) => wX2 cI cZ cO hP aP0 aP1 aP2 aP3 aP4 b2) (fun b2 => ?_) _ (fun J3 => ?_)
  · unfold f_X2_moveHandle_k22
    refine x_iload_n C dX2_moveHandle_22 2 rfl ?_
    exact x_iret C rfl dX2_moveHandle_23 rfl rfl
  · refine x_icmp_eq C 22 dX2_moveHandle_7 (by decide) (fun c1 => ?_) (fun c1 => ?_)
    · refine x_lsub (L' := [(0, .ref hP), (1, .int xd), (2, .int (uP 5 0))]) [1, 2, 0] rfl ?_
      exact J3 uP
    · refine x_aload_n C dX2_moveHandle_10 1 rfl ?_
      refine x_iload_n C dX2_moveHandle_11 2 rfl ?_
      refine x_put (ws' := wX2 cI cZ cO hP aP0 aP1 aP2 aP3 aP4 (put uP 5 0 xd)) C hwsX20 tyX2 tyX2_ok nmX2 5 mw_163 0 rfl rfl (by decide) rfl rfl rfl rfl (Nat.le_of_ble_eq_true rfl) dX2_moveHandle_12 rfl ?_
      refine x_aload_n C dX2_moveHandle_15 1 rfl ?_
      refine x_sipush C 200 dX2_moveHandle_16 (by decide) ?_
      refine x_put (ws' := wX2 cI cZ cO hP aP0 aP1 aP2 aP3 aP4 (put (put uP 5 0 xd) 7 0 200)) C hwsX20 tyX2 tyX2_ok nmX2 7 mw_165 0 rfl rfl (by decide) rfl rfl rfl rfl (Nat.le_of_ble_eq_true rfl) dX2_moveHandle_19 rfl ?_
      refine x_lsub (L' := [(0, .ref hP), (1, .int xd), (2, .int (uP 5 0))]) [1, 2, 0] rfl ?_
      exact J3 (put (put uP 5 0 xd) 7 0 200)

def f_X2_moveSwitch (uP : St) : St := if (uP 7 0) = 0 then (put uP 6 0 (imx ((uP 6 0) - 2) 0)) else (if (uP 6 0) < 24 then (put uP 6 0 (imn ((uP 6 0) + 3) 24)) else (put uP 7 0 ((uP 7 0) - 1)))
theorem hd_X2_moveSwitch : yX2_moveSwitch.cls ≠ "java/lang/invoke/MethodHandle" ∧ yX2_moveSwitch.cls ≠ "java/lang/invoke/VarHandle" ∧ (parseMethodDescriptor yX2_moveSwitch.desc).map (fun d => d.parameters.length) = some 0 := by decide +kernel
set_option maxHeartbeats 4000000 in
set_option maxRecDepth 100000 in
theorem c_X2_moveSwitch (l : Launch) (D : va_G) (cI cZ cO : ClassId) (hP aP0 aP1 aP2 aP3 aP4 : Nat) (uP : St)  : CTv l D (T3 cI cZ cO) yX2_moveSwitch (Cond.code yX2_moveSwitch cX2_moveSwitch 1 none :: WA) ({ frames := 1, cells := 0, slots := 0, locals := 21 } : Room) [.ref hP] (wX2 cI cZ cO hP aP0 aP1 aP2 aP3 aP4 uP) (wX2 cI cZ cO hP aP0 aP1 aP2 aP3 aP4 (f_X2_moveSwitch uP)) := by
  refine ct_v (K := fun z => z) (t := f_X2_moveSwitch uP) (wf := fun o => wX2 cI cZ cO hP aP0 aP1 aP2 aP3 aP4 o) (own := RX2) (nm := "moveSwitch") (L0 := [(0, .ref hP)]) (plainFor_of_name (by decide +kernel)) rfl rfl (Nat.le_of_ble_eq_true rfl) rfl ?_
  intro p e s m args below meth c A C
  unfold f_X2_moveSwitch
  refine x_aload_n C dX2_moveSwitch_0 0 rfl ?_
  refine x_get (v := .int (uP 7 0)) C hwsX20 7 mw_165 0 rfl rfl (by decide) rfl rfl dX2_moveSwitch_1 ?_
  refine x_if_ne C 24 dX2_moveSwitch_4 (by decide) (fun c1 => ?_) (fun c1 => ?_)
  · refine x_aload_n C dX2_moveSwitch_7 0 rfl ?_
    refine x_aload_n C dX2_moveSwitch_8 0 rfl ?_
    refine x_get (v := .int (uP 6 0)) C hwsX20 6 mw_164 0 rfl rfl (by decide) rfl rfl dX2_moveSwitch_9 ?_
    refine x_iconst C 2 dX2_moveSwitch_12 (by decide) ?_
    refine x_isub C dX2_moveSwitch_13 ?_
    refine x_iconst C 0 dX2_moveSwitch_14 (by decide) ?_
    refine x_mmax C mw_173 mw_174 mw_41 mw_175 (Nat.le_of_ble_eq_true rfl) (Nat.le_of_ble_eq_true rfl) (Nat.zero_le _) (Nat.zero_le _) dX2_moveSwitch_15 ?_
    refine x_put (ws' := wX2 cI cZ cO hP aP0 aP1 aP2 aP3 aP4 (put uP 6 0 (imx ((uP 6 0) - 2) 0))) C hwsX20 tyX2 tyX2_ok nmX2 6 mw_164 0 rfl rfl (by decide) rfl rfl rfl rfl (Nat.le_of_ble_eq_true rfl) dX2_moveSwitch_18 rfl ?_
    refine x_goto C 61 dX2_moveSwitch_21 (by decide) ?_
    exact x_vret C rfl dX2_moveSwitch_61 rfl
  · refine x_aload_n C dX2_moveSwitch_24 0 rfl ?_
    refine x_get (v := .int (uP 6 0)) C hwsX20 6 mw_164 0 rfl rfl (by decide) rfl rfl dX2_moveSwitch_25 ?_
    refine x_bipush C 24 dX2_moveSwitch_28 (by decide) ?_
    refine x_icmp_ge C 51 dX2_moveSwitch_30 (by decide) (fun c2 => ?_) (fun c2 => ?_)
    · refine x_aload_n C dX2_moveSwitch_33 0 rfl ?_
      refine x_aload_n C dX2_moveSwitch_34 0 rfl ?_
      refine x_get (v := .int (uP 6 0)) C hwsX20 6 mw_164 0 rfl rfl (by decide) rfl rfl dX2_moveSwitch_35 ?_
      refine x_iconst C 3 dX2_moveSwitch_38 (by decide) ?_
      refine x_iadd C dX2_moveSwitch_39 ?_
      refine x_bipush C 24 dX2_moveSwitch_40 (by decide) ?_
      refine x_mmin C mw_178 mw_40 mw_41 mw_42 (Nat.le_of_ble_eq_true rfl) (Nat.le_of_ble_eq_true rfl) (Nat.zero_le _) (Nat.zero_le _) dX2_moveSwitch_42 ?_
      refine x_put (ws' := wX2 cI cZ cO hP aP0 aP1 aP2 aP3 aP4 (put uP 6 0 (imn ((uP 6 0) + 3) 24))) C hwsX20 tyX2 tyX2_ok nmX2 6 mw_164 0 rfl rfl (by decide) rfl rfl rfl rfl (Nat.le_of_ble_eq_true rfl) dX2_moveSwitch_45 rfl ?_
      refine x_goto C 61 dX2_moveSwitch_48 (by decide) ?_
      exact x_vret C rfl dX2_moveSwitch_61 rfl
    · refine x_aload_n C dX2_moveSwitch_51 0 rfl ?_
      refine x_dup C dX2_moveSwitch_52 rfl ?_
      refine x_get (v := .int (uP 7 0)) C hwsX20 7 mw_165 0 rfl rfl (by decide) rfl rfl dX2_moveSwitch_53 ?_
      refine x_iconst C 1 dX2_moveSwitch_56 (by decide) ?_
      refine x_isub C dX2_moveSwitch_57 ?_
      refine x_put (ws' := wX2 cI cZ cO hP aP0 aP1 aP2 aP3 aP4 (put uP 7 0 ((uP 7 0) - 1))) C hwsX20 tyX2 tyX2_ok nmX2 7 mw_165 0 rfl rfl (by decide) rfl rfl rfl rfl (Nat.le_of_ble_eq_true rfl) dX2_moveSwitch_58 rfl ?_
      exact x_vret C rfl dX2_moveSwitch_61 rfl

def f_X2_full (uP : St) (xv : Nat) : Bool := if (uP 3 xv) = 360 then true else false
theorem hd_X2_full : yX2_full.cls ≠ "java/lang/invoke/MethodHandle" ∧ yX2_full.cls ≠ "java/lang/invoke/VarHandle" ∧ (parseMethodDescriptor yX2_full.desc).map (fun d => d.parameters.length) = some 1 := by decide +kernel
set_option maxHeartbeats 4000000 in
set_option maxRecDepth 100000 in
theorem c_X2_full (l : Launch) (D : va_G) (cI cZ cO : ClassId) (hP aP0 aP1 aP2 aP3 aP4 : Nat) (uP : St) (xv : Nat) (hy0 : xv < 5) : CTi l D (T3 cI cZ cO) yX2_full (Cond.code yX2_full cX2_full 2 (some .boolean) :: WA) ({ frames := 0, cells := 0, slots := 0, locals := 0 } : Room) [.ref hP, .int (nI xv)] (wX2 cI cZ cO hP aP0 aP1 aP2 aP3 aP4 uP) (b2i (f_X2_full uP xv)) (wX2 cI cZ cO hP aP0 aP1 aP2 aP3 aP4 uP) := by
  refine ct_i (K := fun z => z) (t := f_X2_full uP xv) (rf := fun o => b2i o) (wf := fun o => wX2 cI cZ cO hP aP0 aP1 aP2 aP3 aP4 uP) (own := RX2) (nm := "full") (L0 := [(0, .ref hP), (1, .int (nI xv))]) (plainFor_of_name (by decide +kernel)) rfl rfl (Nat.le_of_ble_eq_true rfl) rfl ?_
  intro p e s m args below meth c A C
  unfold f_X2_full
  refine x_aload_n C dX2_full_0 0 rfl ?_
  refine x_get (v := .ref aP3) C hwsX20 3 mw_161 0 rfl rfl (by decide) rfl rfl dX2_full_1 ?_
  refine x_iload_n C dX2_full_4 1 rfl ?_
  refine x_iald C 4 0 rfl rfl xv rfl (by omega) (by decide) (uP 3 xv) rfl dX2_full_5 ?_
  refine x_sipush C 360 dX2_full_6 (by decide) ?_
  refine x_icmp_ne C 16 dX2_full_9 (by decide) (fun c1 => ?_) (fun c1 => ?_)
  · refine x_iconst C 1 dX2_full_12 (by decide) ?_
    refine x_goto C 17 dX2_full_13 (by decide) ?_
    exact x_zret C rfl (by decide) dX2_full_17 rfl rfl
  · refine x_iconst C 0 dX2_full_16 (by decide) ?_
    exact x_zret C rfl (by decide) dX2_full_17 rfl rfl

def f_X2_fed (uP : St) (xv : Nat) (xa : Bool) (xb : Bool) : Bool := if (uP 4 xv) = 1 then false else (if (uP 4 xv) = 2 then xb else xa)
theorem hd_X2_fed : yX2_fed.cls ≠ "java/lang/invoke/MethodHandle" ∧ yX2_fed.cls ≠ "java/lang/invoke/VarHandle" ∧ (parseMethodDescriptor yX2_fed.desc).map (fun d => d.parameters.length) = some 3 := by decide +kernel
set_option maxHeartbeats 4000000 in
set_option maxRecDepth 100000 in
theorem c_X2_fed (l : Launch) (D : va_G) (cI cZ cO : ClassId) (hP aP0 aP1 aP2 aP3 aP4 : Nat) (uP : St) (xv : Nat) (xa : Bool) (xb : Bool) (hy0 : xv < 5) : CTi l D (T3 cI cZ cO) yX2_fed (Cond.code yX2_fed cX2_fed 4 (some .boolean) :: WA) ({ frames := 0, cells := 0, slots := 0, locals := 0 } : Room) [.ref hP, .int (nI xv), .int (b2i xa), .int (b2i xb)] (wX2 cI cZ cO hP aP0 aP1 aP2 aP3 aP4 uP) (b2i (f_X2_fed uP xv xa xb)) (wX2 cI cZ cO hP aP0 aP1 aP2 aP3 aP4 uP) := by
  refine ct_i (K := fun z => z) (t := f_X2_fed uP xv xa xb) (rf := fun o => b2i o) (wf := fun o => wX2 cI cZ cO hP aP0 aP1 aP2 aP3 aP4 uP) (own := RX2) (nm := "fed") (L0 := [(0, .ref hP), (1, .int (nI xv)), (2, .int (b2i xa)), (3, .int (b2i xb))]) (plainFor_of_name (by decide +kernel)) rfl rfl (Nat.le_of_ble_eq_true rfl) rfl ?_
  intro p e s m args below meth c A C
  unfold f_X2_fed
  refine x_aload_n C dX2_fed_0 0 rfl ?_
  refine x_get (v := .ref aP4) C hwsX20 4 mw_162 0 rfl rfl (by decide) rfl rfl dX2_fed_1 ?_
  refine x_iload_n C dX2_fed_4 1 rfl ?_
  refine x_iald C 5 0 rfl rfl xv rfl (by omega) (by decide) (uP 4 xv) rfl dX2_fed_5 ?_
  refine x_iconst C 1 dX2_fed_6 (by decide) ?_
  refine x_icmp_ne C 12 dX2_fed_7 (by decide) (fun c1 => ?_) (fun c1 => ?_)
  · refine x_iconst C 0 dX2_fed_10 (by decide) ?_
    exact x_zret C rfl (by decide) dX2_fed_11 rfl rfl
  · refine x_aload_n C dX2_fed_12 0 rfl ?_
    refine x_get (v := .ref aP4) C hwsX20 4 mw_162 0 rfl rfl (by decide) rfl rfl dX2_fed_13 ?_
    refine x_iload_n C dX2_fed_16 1 rfl ?_
    refine x_iald C 5 0 rfl rfl xv rfl (by omega) (by decide) (uP 4 xv) rfl dX2_fed_17 ?_
    refine x_iconst C 2 dX2_fed_18 (by decide) ?_
    refine x_icmp_ne C 26 dX2_fed_19 (by decide) (fun c2 => ?_) (fun c2 => ?_)
    · refine x_iload_n C dX2_fed_22 3 rfl ?_
      refine x_goto C 27 dX2_fed_23 (by decide) ?_
      exact x_zret C rfl (nz_b _) dX2_fed_27 rfl rfl
    · refine x_iload_n C dX2_fed_26 2 rfl ?_
      exact x_zret C rfl (nz_b _) dX2_fed_27 rfl rfl

def f_X2_changePressure_k40 (uP : St) (xv : Nat) (b2 : Int32) : St := put uP 3 xv b2
def f_X2_changePressure (uP : St) (xv : Nat) (xg : Bool) : St := f_X2_changePressure_k40 uP xv (if xg = true then (imn ((uP 3 xv) + 36) 360) else (imx ((uP 3 xv) - 10) 0))
theorem hd_X2_changePressure : yX2_changePressure.cls ≠ "java/lang/invoke/MethodHandle" ∧ yX2_changePressure.cls ≠ "java/lang/invoke/VarHandle" ∧ (parseMethodDescriptor yX2_changePressure.desc).map (fun d => d.parameters.length) = some 2 := by decide +kernel
set_option maxHeartbeats 4000000 in
set_option maxRecDepth 100000 in
theorem c_X2_changePressure (l : Launch) (D : va_G) (cI cZ cO : ClassId) (hP aP0 aP1 aP2 aP3 aP4 : Nat) (uP : St) (xv : Nat) (xg : Bool) (hy0 : xv < 5) : CTv l D (T3 cI cZ cO) yX2_changePressure (Cond.code yX2_changePressure cX2_changePressure 3 none :: WA) ({ frames := 1, cells := 0, slots := 0, locals := 21 } : Room) [.ref hP, .int (nI xv), .int (b2i xg)] (wX2 cI cZ cO hP aP0 aP1 aP2 aP3 aP4 uP) (wX2 cI cZ cO hP aP0 aP1 aP2 aP3 aP4 (f_X2_changePressure uP xv xg)) := by
  refine ct_v (K := fun z => z) (t := f_X2_changePressure uP xv xg) (wf := fun o => wX2 cI cZ cO hP aP0 aP1 aP2 aP3 aP4 o) (own := RX2) (nm := "changePressure") (L0 := [(0, .ref hP), (1, .int (nI xv)), (2, .int (b2i xg))]) (plainFor_of_name (by decide +kernel)) rfl rfl (Nat.le_of_ble_eq_true rfl) rfl ?_
  intro p e s m args below meth c A C
  unfold f_X2_changePressure
  refine x_aload_n C dX2_changePressure_0 0 rfl ?_
  refine x_get (v := .ref aP3) C hwsX20 3 mw_161 0 rfl rfl (by decide) rfl rfl dX2_changePressure_1 ?_
  refine x_iload_n C dX2_changePressure_4 1 rfl ?_
  refine x_iload_n C dX2_changePressure_5 2 rfl ?_
  refine x_join (fun (b2 : Int32) => f_X2_changePressure_k40 uP xv b2) 40 (fun (b2 : Int32) => [(0, .ref hP), (1, .int (nI xv)), (2, .int (b2i xg))]) (fun (b2 : Int32) => [.int b2, .int (nI xv), .ref aP3]) (fun (b2 : Int32) => wX2 cI cZ cO hP aP0 aP1 aP2 aP3 aP4 uP) (fun b2 => ?_) _ (fun J3 => ?_)
  · unfold f_X2_changePressure_k40
    refine x_iast (ws' := wX2 cI cZ cO hP aP0 aP1 aP2 aP3 aP4 (put uP 3 xv b2)) C 4 0 rfl rfl xv rfl (by omega) (by decide) dX2_changePressure_40 rfl ?_
    exact x_vret C rfl dX2_changePressure_41 rfl
  · refine x_if_eqZ C 27 dX2_changePressure_6 (by decide) (fun c1 => ?_) (fun c1 => ?_)
    · refine x_aload_n C dX2_changePressure_9 0 rfl ?_
      refine x_get (v := .ref aP3) C hwsX20 3 mw_161 0 rfl rfl (by decide) rfl rfl dX2_changePressure_10 ?_
      refine x_iload_n C dX2_changePressure_13 1 rfl ?_
      refine x_iald C 4 0 rfl rfl xv rfl (by omega) (by decide) (uP 3 xv) rfl dX2_changePressure_14 ?_
      refine x_bipush C 36 dX2_changePressure_15 (by decide) ?_
      refine x_iadd C dX2_changePressure_17 ?_
      refine x_sipush C 360 dX2_changePressure_18 (by decide) ?_
      refine x_mmin C mw_178 mw_40 mw_41 mw_42 (Nat.le_of_ble_eq_true rfl) (Nat.le_of_ble_eq_true rfl) (Nat.zero_le _) (Nat.zero_le _) dX2_changePressure_21 ?_
      refine x_goto C 40 dX2_changePressure_24 (by decide) ?_
      exact J3 (imn ((uP 3 xv) + 36) 360)
    · refine x_aload_n C dX2_changePressure_27 0 rfl ?_
      refine x_get (v := .ref aP3) C hwsX20 3 mw_161 0 rfl rfl (by decide) rfl rfl dX2_changePressure_28 ?_
      refine x_iload_n C dX2_changePressure_31 1 rfl ?_
      refine x_iald C 4 0 rfl rfl xv rfl (by omega) (by decide) (uP 3 xv) rfl dX2_changePressure_32 ?_
      refine x_bipush C 10 dX2_changePressure_33 (by decide) ?_
      refine x_isub C dX2_changePressure_35 ?_
      refine x_iconst C 0 dX2_changePressure_36 (by decide) ?_
      refine x_mmax C mw_173 mw_174 mw_41 mw_175 (Nat.le_of_ble_eq_true rfl) (Nat.le_of_ble_eq_true rfl) (Nat.zero_le _) (Nat.zero_le _) dX2_changePressure_37 ?_
      exact J3 (imx ((uP 3 xv) - 10) 0)

def f_X2_push (uP : St) (xo : Nat) (xi : Nat) : Int32 := (f_X6_bit (f_X2_full uP xo)) - (f_X6_bit (f_X2_full uP xi))
theorem hd_X2_push : yX2_push.cls ≠ "java/lang/invoke/MethodHandle" ∧ yX2_push.cls ≠ "java/lang/invoke/VarHandle" ∧ (parseMethodDescriptor yX2_push.desc).map (fun d => d.parameters.length) = some 2 := by decide +kernel
set_option maxHeartbeats 4000000 in
set_option maxRecDepth 100000 in
theorem c_X2_push (l : Launch) (D : va_G) (cI cZ cO : ClassId) (hP aP0 aP1 aP2 aP3 aP4 : Nat) (uP : St) (xo : Nat) (xi : Nat) (hy0 : xo < 5) (hy1 : xi < 5) : CTi l D (T3 cI cZ cO) yX2_push (Cond.code yX2_push cX2_push 3 (some .int) :: WA) ({ frames := 1, cells := 0, slots := 0, locals := 21 } : Room) [.ref hP, .int (nI xo), .int (nI xi)] (wX2 cI cZ cO hP aP0 aP1 aP2 aP3 aP4 uP) ((f_X2_push uP xo xi)) (wX2 cI cZ cO hP aP0 aP1 aP2 aP3 aP4 uP) := by
  refine ct_i (K := fun z => z) (t := f_X2_push uP xo xi) (rf := fun o => o) (wf := fun o => wX2 cI cZ cO hP aP0 aP1 aP2 aP3 aP4 uP) (own := RX2) (nm := "push") (L0 := [(0, .ref hP), (1, .int (nI xo)), (2, .int (nI xi))]) (plainFor_of_name (by decide +kernel)) rfl rfl (Nat.le_of_ble_eq_true rfl) rfl ?_
  intro p e s m args below meth c A C
  unfold f_X2_push
  refine x_aload_n C dX2_push_0 0 rfl ?_
  refine x_iload_n C dX2_push_1 1 rfl ?_
  refine x_cViW (q0 := 0) (As := [.int (nI xo)]) C mw_182 mw_183 mw_184 mw_171 mw_179 hd_X2_full rfl rfl ⟨Nat.le_of_ble_eq_true rfl, Nat.le_of_ble_eq_true rfl⟩ rfl rfl rfl (c_X2_full l D cI cZ cO hP aP0 aP1 aP2 aP3 aP4 uP xo (by omega)) rfl rfl (Nat.le_of_ble_eq_true rfl) (Nat.zero_le _) (Nat.zero_le _) dX2_push_2 ?_
  refine x_cNi (As := [.int (b2i (f_X2_full uP xo))]) (ws' := wX2 cI cZ cO hP aP0 aP1 aP2 aP3 aP4 uP) C C.2.2.2.1.2.2.1 mw_72 mw_37 mw_66 hd_X6_bit rfl rfl ⟨Nat.le_of_ble_eq_true rfl, Nat.le_of_ble_eq_true rfl⟩ (c_X6_bit l D cI cZ cO  (f_X2_full uP xo) ) [] [.inl 0, .inl 1, .inl 2, .inl 3, .inl 4, .inl 5] trivial rfl ⟨rfl, rfl, rfl, rfl, rfl, rfl, trivial⟩ rfl ⟨rfl, rfl, rfl, rfl, rfl, rfl, trivial⟩ rfl rfl (Nat.le_of_ble_eq_true rfl) (Nat.zero_le _) (Nat.zero_le _) dX2_push_5 ?_
  refine x_aload_n C dX2_push_8 0 rfl ?_
  refine x_iload_n C dX2_push_9 2 rfl ?_
  refine x_cViW (q0 := 0) (As := [.int (nI xi)]) C mw_182 mw_183 mw_184 mw_171 mw_179 hd_X2_full rfl rfl ⟨Nat.le_of_ble_eq_true rfl, Nat.le_of_ble_eq_true rfl⟩ rfl rfl rfl (c_X2_full l D cI cZ cO hP aP0 aP1 aP2 aP3 aP4 uP xi (by omega)) rfl rfl (Nat.le_of_ble_eq_true rfl) (Nat.zero_le _) (Nat.zero_le _) dX2_push_10 ?_
  refine x_cNi (As := [.int (b2i (f_X2_full uP xi))]) (ws' := wX2 cI cZ cO hP aP0 aP1 aP2 aP3 aP4 uP) C C.2.2.2.1.2.2.1 mw_72 mw_37 mw_66 hd_X6_bit rfl rfl ⟨Nat.le_of_ble_eq_true rfl, Nat.le_of_ble_eq_true rfl⟩ (c_X6_bit l D cI cZ cO  (f_X2_full uP xi) ) [] [.inl 0, .inl 1, .inl 2, .inl 3, .inl 4, .inl 5] trivial rfl ⟨rfl, rfl, rfl, rfl, rfl, rfl, trivial⟩ rfl ⟨rfl, rfl, rfl, rfl, rfl, rfl, trivial⟩ rfl rfl (Nat.le_of_ble_eq_true rfl) (Nat.zero_le _) (Nat.zero_le _) dX2_push_13 ?_
  refine x_isub C dX2_push_16 ?_
  exact x_iret C rfl dX2_push_17 rfl rfl

def f_X2_shift (uP : St) (xk : Nat) (xs : Int32) : Bool × St := if xs = 0 then (false, uP) else (if (uP 2 xk) = 1 then (false, uP) else (if ((uP 1 xk) + xs) < 0 then (false, uP) else (if (uP 0 xk) < ((uP 1 xk) + xs) then (false, uP) else (true, put uP 1 xk ((uP 1 xk) + xs)))))
theorem hd_X2_shift : yX2_shift.cls ≠ "java/lang/invoke/MethodHandle" ∧ yX2_shift.cls ≠ "java/lang/invoke/VarHandle" ∧ (parseMethodDescriptor yX2_shift.desc).map (fun d => d.parameters.length) = some 2 := by decide +kernel
set_option maxHeartbeats 4000000 in
set_option maxRecDepth 100000 in
theorem c_X2_shift (l : Launch) (D : va_G) (cI cZ cO : ClassId) (hP aP0 aP1 aP2 aP3 aP4 : Nat) (uP : St) (xk : Nat) (xs : Int32) (hy0 : xk < 6) : CTi l D (T3 cI cZ cO) yX2_shift (Cond.code yX2_shift cX2_shift 4 (some .boolean) :: WA) ({ frames := 0, cells := 0, slots := 0, locals := 0 } : Room) [.ref hP, .int (nI xk), .int xs] (wX2 cI cZ cO hP aP0 aP1 aP2 aP3 aP4 uP) (b2i (f_X2_shift uP xk xs).1) (wX2 cI cZ cO hP aP0 aP1 aP2 aP3 aP4 (f_X2_shift uP xk xs).2) := by
  refine ct_i (K := fun z => z) (t := f_X2_shift uP xk xs) (rf := fun o => b2i o.1) (wf := fun o => wX2 cI cZ cO hP aP0 aP1 aP2 aP3 aP4 o.2) (own := RX2) (nm := "shift") (L0 := [(0, .ref hP), (1, .int (nI xk)), (2, .int xs)]) (plainFor_of_name (by decide +kernel)) rfl rfl (Nat.le_of_ble_eq_true rfl) rfl ?_
  intro p e s m args below meth c A C
  unfold f_X2_shift
  refine x_aload_n C dX2_shift_0 0 rfl ?_
  refine x_get (v := .ref aP1) C hwsX20 1 mw_159 0 rfl rfl (by decide) rfl rfl dX2_shift_1 ?_
  refine x_iload_n C dX2_shift_4 1 rfl ?_
  refine x_iald C 2 0 rfl rfl xk rfl (by omega) (by decide) (uP 1 xk) rfl dX2_shift_5 ?_
  refine x_iload_n C dX2_shift_6 2 rfl ?_
  refine x_iadd C dX2_shift_7 ?_
  refine x_istore_n (L' := [(3, .int ((uP 1 xk) + xs)), (0, .ref hP), (1, .int (nI xk)), (2, .int xs)]) C dX2_shift_8 (by decide) rfl ?_
  refine x_iload_n C dX2_shift_9 3 rfl ?_
  refine x_if_eq C 37 dX2_shift_10 (by decide) (fun c1 => ?_) (fun c1 => ?_)
  · refine x_iconst C 0 dX2_shift_37 (by decide) ?_
    exact x_zret C rfl (by decide) dX2_shift_38 rfl rfl
  · refine x_aload_n C dX2_shift_13 1 rfl ?_
    refine x_get (v := .ref aP2) C hwsX20 2 mw_160 0 rfl rfl (by decide) rfl rfl dX2_shift_14 ?_
    refine x_iload_n C dX2_shift_17 2 rfl ?_
    refine x_iald C 3 0 rfl rfl xk rfl (by omega) (by decide) (uP 2 xk) rfl dX2_shift_18 ?_
    refine x_iconst C 1 dX2_shift_19 (by decide) ?_
    refine x_icmp_eq C 37 dX2_shift_20 (by decide) (fun c2 => ?_) (fun c2 => ?_)
    · refine x_iconst C 0 dX2_shift_37 (by decide) ?_
      exact x_zret C rfl (by decide) dX2_shift_38 rfl rfl
    · refine x_iload_n C dX2_shift_23 0 rfl ?_
      refine x_if_lt C 37 dX2_shift_24 (by decide) (fun c3 => ?_) (fun c3 => ?_)
      · refine x_iconst C 0 dX2_shift_37 (by decide) ?_
        exact x_zret C rfl (by decide) dX2_shift_38 rfl rfl
      · refine x_iload_n C dX2_shift_27 0 rfl ?_
        refine x_aload_n C dX2_shift_28 1 rfl ?_
        refine x_get (v := .ref aP0) C hwsX20 0 mw_158 0 rfl rfl (by decide) rfl rfl dX2_shift_29 ?_
        refine x_iload_n C dX2_shift_32 2 rfl ?_
        refine x_iald C 1 0 rfl rfl xk rfl (by omega) (by decide) (uP 0 xk) rfl dX2_shift_33 ?_
        refine x_icmp_le C 39 dX2_shift_34 (by decide) (fun c4 => ?_) (fun c4 => ?_)
        · refine x_iconst C 0 dX2_shift_37 (by decide) ?_
          exact x_zret C rfl (by decide) dX2_shift_38 rfl rfl
        · refine x_aload_n C dX2_shift_39 1 rfl ?_
          refine x_get (v := .ref aP1) C hwsX20 1 mw_159 0 rfl rfl (by decide) rfl rfl dX2_shift_40 ?_
          refine x_iload_n C dX2_shift_43 2 rfl ?_
          refine x_iload_n C dX2_shift_44 0 rfl ?_
          refine x_iast (ws' := wX2 cI cZ cO hP aP0 aP1 aP2 aP3 aP4 (put uP 1 xk ((uP 1 xk) + xs))) C 2 0 rfl rfl xk rfl (by omega) (by decide) dX2_shift_45 rfl ?_
          refine x_iconst C 1 dX2_shift_46 (by decide) ?_
          exact x_zret C rfl (by decide) dX2_shift_47 rfl rfl

def f_X2_movePressures_x41 (a5 : St) : St := a5
def f_X2_movePressures_o71 (o11 : St) : St := o11
def f_X2_movePressures_k67 (uP : St) (i4 : Nat) (a5 : St) (b10 : Bool) : St := f_X2_movePressures_o71 (f_X2_changePressure a5 i4 (f_X2_fed a5 i4 b10 (f_X2_full uP 0)))
def f_X2_movePressures_t41 (uP : St) (xo : Int32) (i4 : Nat) (a5 : St) : St := f_X2_movePressures_k67 uP i4 a5 (if (f_X6_has xo (nI i4)) = true then (if (f_X2_full uP 0) = true then true else false) else false)
def f_X2_movePressures_o36 (uP : St) (xo : Int32) (o3 : St) : St := f_X2_movePressures_x41 (up (f_X2_movePressures_t41 uP xo) 1 (5 - 1) o3)
def f_X2_movePressures_k32 (uP : St) (xo : Int32) (b2 : Bool) : St := f_X2_movePressures_o36 uP xo (f_X2_changePressure uP 0 (f_X2_fed uP 0 b2 true))
def f_X2_movePressures (uP : St) (xo : Int32) : St := f_X2_movePressures_k32 uP xo (if (f_X6_has xo 0) = true then (if (uP 6 0) = 24 then true else false) else false)
theorem hd_X2_movePressures : yX2_movePressures.cls ≠ "java/lang/invoke/MethodHandle" ∧ yX2_movePressures.cls ≠ "java/lang/invoke/VarHandle" ∧ (parseMethodDescriptor yX2_movePressures.desc).map (fun d => d.parameters.length) = some 1 := by decide +kernel
set_option maxHeartbeats 4000000 in
set_option maxRecDepth 100000 in
theorem c_X2_movePressures (l : Launch) (D : va_G) (cI cZ cO : ClassId) (hP aP0 aP1 aP2 aP3 aP4 : Nat) (uP : St) (xo : Int32)  : CTv l D (T3 cI cZ cO) yX2_movePressures (Cond.code yX2_movePressures cX2_movePressures 4 none :: WA) ({ frames := 2, cells := 0, slots := 0, locals := 43 } : Room) [.ref hP, .int xo] (wX2 cI cZ cO hP aP0 aP1 aP2 aP3 aP4 uP) (wX2 cI cZ cO hP aP0 aP1 aP2 aP3 aP4 (f_X2_movePressures uP xo)) := by
  refine ct_v (K := fun z => z) (t := f_X2_movePressures uP xo) (wf := fun o => wX2 cI cZ cO hP aP0 aP1 aP2 aP3 aP4 o) (own := RX2) (nm := "movePressures") (L0 := [(0, .ref hP), (1, .int xo)]) (plainFor_of_name (by decide +kernel)) rfl rfl (Nat.le_of_ble_eq_true rfl) rfl ?_
  intro p e s m args below meth c A C
  unfold f_X2_movePressures
  refine x_aload_n C dX2_movePressures_0 0 rfl ?_
  refine x_iconst C 0 dX2_movePressures_1 (by decide) ?_
  refine x_cViW (q0 := 0) (As := [.int 0]) C mw_182 mw_183 mw_184 mw_171 mw_179 hd_X2_full rfl rfl ⟨Nat.le_of_ble_eq_true rfl, Nat.le_of_ble_eq_true rfl⟩ rfl rfl rfl (c_X2_full l D cI cZ cO hP aP0 aP1 aP2 aP3 aP4 uP 0 (by omega)) rfl rfl (Nat.le_of_ble_eq_true rfl) (Nat.zero_le _) (Nat.zero_le _) dX2_movePressures_2 ?_
  refine x_istore_n (L' := [(2, .int (b2i (f_X2_full uP 0))), (0, .ref hP), (1, .int xo)]) C dX2_movePressures_5 (by decide) rfl ?_
  refine x_aload_n C dX2_movePressures_6 1 rfl ?_
  refine x_iconst C 0 dX2_movePressures_7 (by decide) ?_
  refine x_aload_n C dX2_movePressures_8 1 rfl ?_
  refine x_iconst C 0 dX2_movePressures_9 (by decide) ?_
  refine x_iload_n C dX2_movePressures_10 2 rfl ?_
  refine x_iconst C 0 dX2_movePressures_11 (by decide) ?_
  refine x_cNi (As := [.int xo, .int 0]) (ws' := wX2 cI cZ cO hP aP0 aP1 aP2 aP3 aP4 uP) C C.2.2.2.1.2.1 mw_108 mw_37 mw_105 hd_X6_has rfl rfl ⟨Nat.le_of_ble_eq_true rfl, Nat.le_of_ble_eq_true rfl⟩ (c_X6_has l D cI cZ cO  xo 0 ) [] [.inl 0, .inl 1, .inl 2, .inl 3, .inl 4, .inl 5] trivial rfl ⟨rfl, rfl, rfl, rfl, rfl, rfl, trivial⟩ rfl ⟨rfl, rfl, rfl, rfl, rfl, rfl, trivial⟩ rfl rfl (Nat.le_of_ble_eq_true rfl) (Nat.zero_le _) (Nat.zero_le _) dX2_movePressures_12 ?_
  refine x_join (fun (b2 : Bool) => f_X2_movePressures_k32 uP xo b2) 32 (fun (b2 : Bool) => [(0, .ref hP), (1, .int xo), (2, .int (b2i (f_X2_full uP 0)))]) (fun (b2 : Bool) => [.int (b2i b2), .int 0, .ref hP, .int 0, .ref hP]) (fun (b2 : Bool) => wX2 cI cZ cO hP aP0 aP1 aP2 aP3 aP4 uP) (fun b2 => ?_) _ (fun J14 => ?_)
  · unfold f_X2_movePressures_k32
    refine x_iconst C 1 dX2_movePressures_32 (by decide) ?_
    refine x_cViW (q0 := 0) (As := [.int 0, .int (b2i b2), .int 1]) C mw_185 mw_186 mw_187 mw_171 mw_180 hd_X2_fed rfl rfl ⟨Nat.le_of_ble_eq_true rfl, Nat.le_of_ble_eq_true rfl⟩ rfl rfl rfl (c_X2_fed l D cI cZ cO hP aP0 aP1 aP2 aP3 aP4 uP 0 b2 true (by omega)) rfl rfl (Nat.le_of_ble_eq_true rfl) (Nat.zero_le _) (Nat.zero_le _) dX2_movePressures_33 ?_
    refine x_cVvW (q0 := 0) (As := [.int 0, .int (b2i (f_X2_fed uP 0 b2 true))]) C mw_188 mw_189 mw_190 mw_171 mw_181 hd_X2_changePressure rfl rfl ⟨Nat.le_of_ble_eq_true rfl, Nat.le_of_ble_eq_true rfl⟩ rfl rfl rfl (c_X2_changePressure l D cI cZ cO hP aP0 aP1 aP2 aP3 aP4 uP 0 (f_X2_fed uP 0 b2 true) (by omega)) rfl rfl (Nat.le_of_ble_eq_true rfl) (Nat.zero_le _) (Nat.zero_le _) dX2_movePressures_36 ?_
    unfold f_X2_movePressures_o36
    generalize f_X2_changePressure uP 0 (f_X2_fed uP 0 b2 true) = o3
    refine x_iconst C 1 dX2_movePressures_39 (by decide) ?_
    refine x_istore_n (L' := [(3, .int 1), (0, .ref hP), (1, .int xo), (2, .int (b2i (f_X2_full uP 0)))]) C dX2_movePressures_40 (by decide) rfl ?_
    refine x_lsub (L' := [(0, .ref hP), (1, .int xo), (2, .int (b2i (f_X2_full uP 0))), (3, .int 1)]) [1, 2, 3, 0] rfl ?_
    refine x_loop (f_X2_movePressures_t41 uP xo) (fun (a5 : St) => f_X2_movePressures_x41 a5) 5 41 (fun (i4 : Nat) (a5 : St) => [(0, .ref hP), (1, .int xo), (2, .int (b2i (f_X2_full uP 0))), (3, .int (nI i4))]) (fun (i4 : Nat) (a5 : St) => []) (fun (i4 : Nat) (a5 : St) => wX2 cI cZ cO hP aP0 aP1 aP2 aP3 aP4 a5) (fun a5 => ?_) (fun i4 a5 K8 hk6 ih7 => ?_) (5 - 1) 1 o3 (by omega)
    · unfold f_X2_movePressures_x41
      refine x_iload_n C dX2_movePressures_41 3 rfl ?_
      refine x_iconst C 5 dX2_movePressures_42 (by decide) ?_
      refine x_icmp_ge_t C 80 dX2_movePressures_43 (by decide) (by decide) ?_
      exact x_vret C rfl dX2_movePressures_80 rfl
    · unfold f_X2_movePressures_t41
      refine x_iload_n C dX2_movePressures_41 3 rfl ?_
      refine x_iconst C 5 dX2_movePressures_42 (by decide) ?_
      refine x_icmp_ge_f C 80 dX2_movePressures_43 (by decide) (nI_lt (b := 5) hk6 (by omega)) ?_
      refine x_aload_n C dX2_movePressures_46 0 rfl ?_
      refine x_iload_n C dX2_movePressures_47 3 rfl ?_
      refine x_aload_n C dX2_movePressures_48 0 rfl ?_
      refine x_iload_n C dX2_movePressures_49 3 rfl ?_
      refine x_iload_n C dX2_movePressures_50 1 rfl ?_
      refine x_iload_n C dX2_movePressures_51 3 rfl ?_
      refine x_cNi (As := [.int xo, .int (nI i4)]) (ws' := wX2 cI cZ cO hP aP0 aP1 aP2 aP3 aP4 a5) C C.2.2.2.1.2.1 mw_108 mw_37 mw_105 hd_X6_has rfl rfl ⟨Nat.le_of_ble_eq_true rfl, Nat.le_of_ble_eq_true rfl⟩ (c_X6_has l D cI cZ cO  xo (nI i4) ) [] [.inl 0, .inl 1, .inl 2, .inl 3, .inl 4, .inl 5] trivial rfl ⟨rfl, rfl, rfl, rfl, rfl, rfl, trivial⟩ rfl ⟨rfl, rfl, rfl, rfl, rfl, rfl, trivial⟩ rfl rfl (Nat.le_of_ble_eq_true rfl) (Nat.zero_le _) (Nat.zero_le _) dX2_movePressures_52 ?_
      refine x_join (fun (b10 : Bool) => f_X2_movePressures_k67 uP i4 a5 b10) 67 (fun (b10 : Bool) => [(0, .ref hP), (1, .int xo), (2, .int (b2i (f_X2_full uP 0))), (3, .int (nI i4))]) (fun (b10 : Bool) => [.int (b2i b10), .int (nI i4), .ref hP, .int (nI i4), .ref hP]) (fun (b10 : Bool) => wX2 cI cZ cO hP aP0 aP1 aP2 aP3 aP4 a5) (fun b10 => ?_) _ (fun J12 => ?_)
      · unfold f_X2_movePressures_k67
        refine x_iload_n C dX2_movePressures_67 2 rfl ?_
        refine x_cViW (q0 := 0) (As := [.int (nI i4), .int (b2i b10), .int (b2i (f_X2_full uP 0))]) C mw_185 mw_186 mw_187 mw_171 mw_180 hd_X2_fed rfl rfl ⟨Nat.le_of_ble_eq_true rfl, Nat.le_of_ble_eq_true rfl⟩ rfl rfl rfl (c_X2_fed l D cI cZ cO hP aP0 aP1 aP2 aP3 aP4 a5 i4 b10 (f_X2_full uP 0) (by omega)) rfl rfl (Nat.le_of_ble_eq_true rfl) (Nat.zero_le _) (Nat.zero_le _) dX2_movePressures_68 ?_
        refine x_cVvW (q0 := 0) (As := [.int (nI i4), .int (b2i (f_X2_fed a5 i4 b10 (f_X2_full uP 0)))]) C mw_188 mw_189 mw_190 mw_171 mw_181 hd_X2_changePressure rfl rfl ⟨Nat.le_of_ble_eq_true rfl, Nat.le_of_ble_eq_true rfl⟩ rfl rfl rfl (c_X2_changePressure l D cI cZ cO hP aP0 aP1 aP2 aP3 aP4 a5 i4 (f_X2_fed a5 i4 b10 (f_X2_full uP 0)) (by omega)) rfl rfl (Nat.le_of_ble_eq_true rfl) (Nat.zero_le _) (Nat.zero_le _) dX2_movePressures_71 ?_
        unfold f_X2_movePressures_o71
        generalize f_X2_changePressure a5 i4 (f_X2_fed a5 i4 b10 (f_X2_full uP 0)) = o11
        refine x_iinc (L' := [(3, .int (nI (i4 + 1))), (0, .ref hP), (1, .int xo), (2, .int (b2i (f_X2_full uP 0)))]) C (nI (i4 + 1)) dX2_movePressures_74 3 rfl (nI_add _ _) (by decide) rfl ?_
        refine x_goto C 41 dX2_movePressures_77 (by decide) ?_
        refine x_lsub (L' := [(0, .ref hP), (1, .int xo), (2, .int (b2i (f_X2_full uP 0))), (3, .int (nI (i4 + 1)))]) [1, 2, 3, 0] rfl ?_
        exact ih7 o11
      · refine x_if_eqZ C 66 dX2_movePressures_55 (by decide) (fun c9 => ?_) (fun c9 => ?_)
        · refine x_iload_n C dX2_movePressures_58 2 rfl ?_
          refine x_if_eqZ C 66 dX2_movePressures_59 (by decide) (fun c13 => ?_) (fun c13 => ?_)
          · refine x_iconst C 1 dX2_movePressures_62 (by decide) ?_
            refine x_goto C 67 dX2_movePressures_63 (by decide) ?_
            exact J12 true
          · refine x_iconst C 0 dX2_movePressures_66 (by decide) ?_
            exact J12 false
        · refine x_iconst C 0 dX2_movePressures_66 (by decide) ?_
          exact J12 false
  · refine x_if_eqZ C 31 dX2_movePressures_15 (by decide) (fun c1 => ?_) (fun c1 => ?_)
    · refine x_aload_n C dX2_movePressures_18 1 rfl ?_
      refine x_get (v := .int (uP 6 0)) C hwsX20 6 mw_164 0 rfl rfl (by decide) rfl rfl dX2_movePressures_19 ?_
      refine x_bipush C 24 dX2_movePressures_22 (by decide) ?_
      refine x_icmp_ne C 31 dX2_movePressures_24 (by decide) (fun c15 => ?_) (fun c15 => ?_)
      · refine x_iconst C 1 dX2_movePressures_27 (by decide) ?_
        refine x_goto C 32 dX2_movePressures_28 (by decide) ?_
        refine x_lsub (L' := [(0, .ref hP), (1, .int xo), (2, .int (b2i (f_X2_full uP 0)))]) [1, 2, 0] rfl ?_
        exact J14 true
      · refine x_iconst C 0 dX2_movePressures_31 (by decide) ?_
        refine x_lsub (L' := [(0, .ref hP), (1, .int xo), (2, .int (b2i (f_X2_full uP 0)))]) [1, 2, 0] rfl ?_
        exact J14 false
    · refine x_iconst C 0 dX2_movePressures_31 (by decide) ?_
      refine x_lsub (L' := [(0, .ref hP), (1, .int xo), (2, .int (b2i (f_X2_full uP 0)))]) [1, 2, 0] rfl ?_
      exact J14 false

def f_X2_move_k89 (b15 : St) : St := b15
def f_X2_move_o58 (o13 : Bool × St) : St := f_X2_move_k89 (if o13.1 = true then (if (o13.2 1 2) = (o13.2 0 2) then o13.2 else (put o13.2 10 0 ((o13.2 10 0) + 1))) else o13.2)
def f_X2_move_k89_2 (b12 : St) : St := f_X2_move_o58 (f_X2_shift b12 5 (f_X2_push b12 3 4))
def f_X2_move_o58_2 (o10 : Bool × St) : St := f_X2_move_k89_2 (if o10.1 = true then (if (o10.2 1 1) = (o10.2 0 1) then o10.2 else (put o10.2 10 0 ((o10.2 10 0) + 1))) else o10.2)
def f_X2_move_k89_3 (b9 : St) : St := f_X2_move_o58_2 (f_X2_shift b9 4 (f_X2_push b9 3 4))
def f_X2_move_o58_3 (o7 : Bool × St) : St := f_X2_move_k89_3 (if o7.1 = true then (if (o7.2 1 0) = (o7.2 0 0) then o7.2 else (put o7.2 10 0 ((o7.2 10 0) + 1))) else o7.2)
def f_X2_move_o31 (o6 : Bool × St) : St := f_X2_move_o58_3 (f_X2_shift o6.2 3 (f_X2_push o6.2 3 4))
def f_X2_move_o31_2 (o5 : Bool × St) : St := f_X2_move_o31 (f_X2_shift o5.2 2 (f_X2_push o5.2 1 2))
def f_X2_move_o31_3 (o4 : Bool × St) : St := f_X2_move_o31_2 (f_X2_shift o4.2 1 (f_X2_push o4.2 1 2))
def f_X2_move_o13 (o3 : St) : St := f_X2_move_o31_3 (f_X2_shift o3 0 (f_X2_push o3 1 2))
def f_X2_move_k11 (xo : Int32) (b2 : St) : St := f_X2_move_o13 (f_X2_movePressures b2 xo)
def f_X2_move (uP : St) (xo : Int32) : St := f_X2_move_k11 xo (if (uP 8 0) = 0 then (f_X2_moveSwitch uP) else uP)
theorem hd_X2_move : yX2_move.cls ≠ "java/lang/invoke/MethodHandle" ∧ yX2_move.cls ≠ "java/lang/invoke/VarHandle" ∧ (parseMethodDescriptor yX2_move.desc).map (fun d => d.parameters.length) = some 1 := by decide +kernel
set_option maxHeartbeats 4000000 in
set_option maxRecDepth 100000 in
theorem c_X2_move (l : Launch) (D : va_G) (cI cZ cO : ClassId) (hP aP0 aP1 aP2 aP3 aP4 : Nat) (uP : St) (xo : Int32)  : CTv l D (T3 cI cZ cO) yX2_move (Cond.code yX2_move cX2_move 3 none :: WA) ({ frames := 3, cells := 0, slots := 0, locals := 66 } : Room) [.ref hP, .int xo] (wX2 cI cZ cO hP aP0 aP1 aP2 aP3 aP4 uP) (wX2 cI cZ cO hP aP0 aP1 aP2 aP3 aP4 (f_X2_move uP xo)) := by
  refine ct_v (K := fun z => z) (t := f_X2_move uP xo) (wf := fun o => wX2 cI cZ cO hP aP0 aP1 aP2 aP3 aP4 o) (own := RX2) (nm := "move") (L0 := [(0, .ref hP), (1, .int xo)]) (plainFor_of_name (by decide +kernel)) rfl rfl (Nat.le_of_ble_eq_true rfl) rfl ?_
  intro p e s m args below meth c A C
  unfold f_X2_move
  refine x_aload_n C dX2_move_0 0 rfl ?_
  refine x_get (v := .int (uP 8 0)) C hwsX20 8 mw_166 0 rfl rfl (by decide) rfl rfl dX2_move_1 ?_
  refine x_join (fun (b2 : St) => f_X2_move_k11 xo b2) 11 (fun (b2 : St) => [(0, .ref hP), (1, .int xo)]) (fun (b2 : St) => []) (fun (b2 : St) => wX2 cI cZ cO hP aP0 aP1 aP2 aP3 aP4 b2) (fun b2 => ?_) _ (fun J22 => ?_)
  · unfold f_X2_move_k11
    refine x_aload_n C dX2_move_11 0 rfl ?_
    refine x_iload_n C dX2_move_12 1 rfl ?_
    refine x_cVvW (q0 := 0) (As := [.int xo]) C mw_197 mw_198 mw_199 mw_171 mw_191 hd_X2_movePressures rfl rfl ⟨Nat.le_of_ble_eq_true rfl, Nat.le_of_ble_eq_true rfl⟩ rfl rfl rfl (c_X2_movePressures l D cI cZ cO hP aP0 aP1 aP2 aP3 aP4 b2 xo ) rfl rfl (Nat.le_of_ble_eq_true rfl) (Nat.zero_le _) (Nat.zero_le _) dX2_move_13 ?_
    unfold f_X2_move_o13
    generalize f_X2_movePressures b2 xo = o3
    refine x_iconst C 0 dX2_move_16 (by decide) ?_
    refine x_istore_n (L' := [(2, .int 0), (0, .ref hP), (1, .int xo)]) C dX2_move_17 (by decide) rfl ?_
    refine x_iload_n C dX2_move_18 0 rfl ?_
    refine x_iconst C 3 dX2_move_19 (by decide) ?_
    refine x_icmp_ge_f C 41 dX2_move_20 (by decide) (by decide) ?_
    refine x_aload_n C dX2_move_23 1 rfl ?_
    refine x_iload_n C dX2_move_24 0 rfl ?_
    refine x_aload_n C dX2_move_25 1 rfl ?_
    refine x_iconst C 1 dX2_move_26 (by decide) ?_
    refine x_iconst C 2 dX2_move_27 (by decide) ?_
    refine x_cViW (q0 := 0) (As := [.int 1, .int 2]) C mw_200 mw_201 mw_202 mw_171 mw_192 hd_X2_push rfl rfl ⟨Nat.le_of_ble_eq_true rfl, Nat.le_of_ble_eq_true rfl⟩ rfl rfl rfl (c_X2_push l D cI cZ cO hP aP0 aP1 aP2 aP3 aP4 o3 1 2 (by omega) (by omega)) rfl rfl (Nat.le_of_ble_eq_true rfl) (Nat.zero_le _) (Nat.zero_le _) dX2_move_28 ?_
    refine x_cViW (q0 := 0) (As := [.int 0, .int (f_X2_push o3 1 2)]) C mw_203 mw_204 mw_205 mw_171 mw_193 hd_X2_shift rfl rfl ⟨Nat.le_of_ble_eq_true rfl, Nat.le_of_ble_eq_true rfl⟩ rfl rfl rfl (c_X2_shift l D cI cZ cO hP aP0 aP1 aP2 aP3 aP4 o3 0 (f_X2_push o3 1 2) (by omega)) rfl rfl (Nat.le_of_ble_eq_true rfl) (Nat.zero_le _) (Nat.zero_le _) dX2_move_31 ?_
    unfold f_X2_move_o31_3
    generalize f_X2_shift o3 0 (f_X2_push o3 1 2) = o4
    refine x_lsub (L' := [(0, .ref hP), (1, .int xo), (2, .int 0)]) [1, 2, 0] rfl ?_
    refine x_pop C dX2_move_34 rfl ?_
    refine x_iinc (L' := [(2, .int 1), (0, .ref hP), (1, .int xo)]) C 1 dX2_move_35 2 rfl (by decide) (by decide) rfl ?_
    refine x_goto C 18 dX2_move_38 (by decide) ?_
    refine x_iload_n C dX2_move_18 0 rfl ?_
    refine x_iconst C 3 dX2_move_19 (by decide) ?_
    refine x_icmp_ge_f C 41 dX2_move_20 (by decide) (by decide) ?_
    refine x_aload_n C dX2_move_23 1 rfl ?_
    refine x_iload_n C dX2_move_24 0 rfl ?_
    refine x_aload_n C dX2_move_25 1 rfl ?_
    refine x_iconst C 1 dX2_move_26 (by decide) ?_
    refine x_iconst C 2 dX2_move_27 (by decide) ?_
    refine x_cViW (q0 := 0) (As := [.int 1, .int 2]) C mw_200 mw_201 mw_202 mw_171 mw_192 hd_X2_push rfl rfl ⟨Nat.le_of_ble_eq_true rfl, Nat.le_of_ble_eq_true rfl⟩ rfl rfl rfl (c_X2_push l D cI cZ cO hP aP0 aP1 aP2 aP3 aP4 o4.2 1 2 (by omega) (by omega)) rfl rfl (Nat.le_of_ble_eq_true rfl) (Nat.zero_le _) (Nat.zero_le _) dX2_move_28 ?_
    refine x_cViW (q0 := 0) (As := [.int 1, .int (f_X2_push o4.2 1 2)]) C mw_203 mw_204 mw_205 mw_171 mw_193 hd_X2_shift rfl rfl ⟨Nat.le_of_ble_eq_true rfl, Nat.le_of_ble_eq_true rfl⟩ rfl rfl rfl (c_X2_shift l D cI cZ cO hP aP0 aP1 aP2 aP3 aP4 o4.2 1 (f_X2_push o4.2 1 2) (by omega)) rfl rfl (Nat.le_of_ble_eq_true rfl) (Nat.zero_le _) (Nat.zero_le _) dX2_move_31 ?_
    unfold f_X2_move_o31_2
    generalize f_X2_shift o4.2 1 (f_X2_push o4.2 1 2) = o5
    refine x_lsub (L' := [(0, .ref hP), (1, .int xo), (2, .int 1)]) [1, 2, 0] rfl ?_
    refine x_pop C dX2_move_34 rfl ?_
    refine x_iinc (L' := [(2, .int 2), (0, .ref hP), (1, .int xo)]) C 2 dX2_move_35 2 rfl (by decide) (by decide) rfl ?_
    refine x_goto C 18 dX2_move_38 (by decide) ?_
    refine x_iload_n C dX2_move_18 0 rfl ?_
    refine x_iconst C 3 dX2_move_19 (by decide) ?_
    refine x_icmp_ge_f C 41 dX2_move_20 (by decide) (by decide) ?_
    refine x_aload_n C dX2_move_23 1 rfl ?_
    refine x_iload_n C dX2_move_24 0 rfl ?_
    refine x_aload_n C dX2_move_25 1 rfl ?_
    refine x_iconst C 1 dX2_move_26 (by decide) ?_
    refine x_iconst C 2 dX2_move_27 (by decide) ?_
    refine x_cViW (q0 := 0) (As := [.int 1, .int 2]) C mw_200 mw_201 mw_202 mw_171 mw_192 hd_X2_push rfl rfl ⟨Nat.le_of_ble_eq_true rfl, Nat.le_of_ble_eq_true rfl⟩ rfl rfl rfl (c_X2_push l D cI cZ cO hP aP0 aP1 aP2 aP3 aP4 o5.2 1 2 (by omega) (by omega)) rfl rfl (Nat.le_of_ble_eq_true rfl) (Nat.zero_le _) (Nat.zero_le _) dX2_move_28 ?_
    refine x_cViW (q0 := 0) (As := [.int 2, .int (f_X2_push o5.2 1 2)]) C mw_203 mw_204 mw_205 mw_171 mw_193 hd_X2_shift rfl rfl ⟨Nat.le_of_ble_eq_true rfl, Nat.le_of_ble_eq_true rfl⟩ rfl rfl rfl (c_X2_shift l D cI cZ cO hP aP0 aP1 aP2 aP3 aP4 o5.2 2 (f_X2_push o5.2 1 2) (by omega)) rfl rfl (Nat.le_of_ble_eq_true rfl) (Nat.zero_le _) (Nat.zero_le _) dX2_move_31 ?_
    unfold f_X2_move_o31
    generalize f_X2_shift o5.2 2 (f_X2_push o5.2 1 2) = o6
    refine x_lsub (L' := [(0, .ref hP), (1, .int xo), (2, .int 2)]) [1, 2, 0] rfl ?_
    refine x_pop C dX2_move_34 rfl ?_
    refine x_iinc (L' := [(2, .int 3), (0, .ref hP), (1, .int xo)]) C 3 dX2_move_35 2 rfl (by decide) (by decide) rfl ?_
    refine x_goto C 18 dX2_move_38 (by decide) ?_
    refine x_iload_n C dX2_move_18 0 rfl ?_
    refine x_iconst C 3 dX2_move_19 (by decide) ?_
    refine x_icmp_ge_t C 41 dX2_move_20 (by decide) (by decide) ?_
    refine x_iconst C 0 dX2_move_41 (by decide) ?_
    refine x_istore_n (L' := [(2, .int 0), (0, .ref hP), (1, .int xo)]) C dX2_move_42 (by decide) rfl ?_
    refine x_iload_n C dX2_move_43 0 rfl ?_
    refine x_iconst C 3 dX2_move_44 (by decide) ?_
    refine x_icmp_ge_f C 95 dX2_move_45 (by decide) (by decide) ?_
    refine x_aload_n C dX2_move_48 1 rfl ?_
    refine x_iconst C 3 dX2_move_49 (by decide) ?_
    refine x_iload_n C dX2_move_50 0 rfl ?_
    refine x_iadd C dX2_move_51 ?_
    refine x_top 3 (by decide) ?_
    refine x_aload_n C dX2_move_52 1 rfl ?_
    refine x_iconst C 3 dX2_move_53 (by decide) ?_
    refine x_iconst C 4 dX2_move_54 (by decide) ?_
    refine x_cViW (q0 := 0) (As := [.int 3, .int 4]) C mw_200 mw_201 mw_202 mw_171 mw_192 hd_X2_push rfl rfl ⟨Nat.le_of_ble_eq_true rfl, Nat.le_of_ble_eq_true rfl⟩ rfl rfl rfl (c_X2_push l D cI cZ cO hP aP0 aP1 aP2 aP3 aP4 o6.2 3 4 (by omega) (by omega)) rfl rfl (Nat.le_of_ble_eq_true rfl) (Nat.zero_le _) (Nat.zero_le _) dX2_move_55 ?_
    refine x_cViW (q0 := 0) (As := [.int 3, .int (f_X2_push o6.2 3 4)]) C mw_203 mw_204 mw_205 mw_171 mw_193 hd_X2_shift rfl rfl ⟨Nat.le_of_ble_eq_true rfl, Nat.le_of_ble_eq_true rfl⟩ rfl rfl rfl (c_X2_shift l D cI cZ cO hP aP0 aP1 aP2 aP3 aP4 o6.2 3 (f_X2_push o6.2 3 4) (by omega)) rfl rfl (Nat.le_of_ble_eq_true rfl) (Nat.zero_le _) (Nat.zero_le _) dX2_move_58 ?_
    unfold f_X2_move_o58_3
    generalize f_X2_shift o6.2 3 (f_X2_push o6.2 3 4) = o7
    refine x_lsub (L' := [(0, .ref hP), (1, .int xo), (2, .int 0)]) [1, 2, 0] rfl ?_
    refine x_join (fun (b9 : St) => f_X2_move_k89_3 b9) 89 (fun (b9 : St) => [(0, .ref hP), (1, .int xo), (2, .int 0)]) (fun (b9 : St) => []) (fun (b9 : St) => wX2 cI cZ cO hP aP0 aP1 aP2 aP3 aP4 b9) (fun b9 => ?_) _ (fun J20 => ?_)
    · unfold f_X2_move_k89_3
      refine x_iinc (L' := [(2, .int 1), (0, .ref hP), (1, .int xo)]) C 1 dX2_move_89 2 rfl (by decide) (by decide) rfl ?_
      refine x_goto C 43 dX2_move_92 (by decide) ?_
      refine x_iload_n C dX2_move_43 0 rfl ?_
      refine x_iconst C 3 dX2_move_44 (by decide) ?_
      refine x_icmp_ge_f C 95 dX2_move_45 (by decide) (by decide) ?_
      refine x_aload_n C dX2_move_48 1 rfl ?_
      refine x_iconst C 3 dX2_move_49 (by decide) ?_
      refine x_iload_n C dX2_move_50 0 rfl ?_
      refine x_iadd C dX2_move_51 ?_
      refine x_top 4 (by decide) ?_
      refine x_aload_n C dX2_move_52 1 rfl ?_
      refine x_iconst C 3 dX2_move_53 (by decide) ?_
      refine x_iconst C 4 dX2_move_54 (by decide) ?_
      refine x_cViW (q0 := 0) (As := [.int 3, .int 4]) C mw_200 mw_201 mw_202 mw_171 mw_192 hd_X2_push rfl rfl ⟨Nat.le_of_ble_eq_true rfl, Nat.le_of_ble_eq_true rfl⟩ rfl rfl rfl (c_X2_push l D cI cZ cO hP aP0 aP1 aP2 aP3 aP4 b9 3 4 (by omega) (by omega)) rfl rfl (Nat.le_of_ble_eq_true rfl) (Nat.zero_le _) (Nat.zero_le _) dX2_move_55 ?_
      refine x_cViW (q0 := 0) (As := [.int 4, .int (f_X2_push b9 3 4)]) C mw_203 mw_204 mw_205 mw_171 mw_193 hd_X2_shift rfl rfl ⟨Nat.le_of_ble_eq_true rfl, Nat.le_of_ble_eq_true rfl⟩ rfl rfl rfl (c_X2_shift l D cI cZ cO hP aP0 aP1 aP2 aP3 aP4 b9 4 (f_X2_push b9 3 4) (by omega)) rfl rfl (Nat.le_of_ble_eq_true rfl) (Nat.zero_le _) (Nat.zero_le _) dX2_move_58 ?_
      unfold f_X2_move_o58_2
      generalize f_X2_shift b9 4 (f_X2_push b9 3 4) = o10
      refine x_lsub (L' := [(0, .ref hP), (1, .int xo), (2, .int 1)]) [1, 2, 0] rfl ?_
      refine x_join (fun (b12 : St) => f_X2_move_k89_2 b12) 89 (fun (b12 : St) => [(0, .ref hP), (1, .int xo), (2, .int 1)]) (fun (b12 : St) => []) (fun (b12 : St) => wX2 cI cZ cO hP aP0 aP1 aP2 aP3 aP4 b12) (fun b12 => ?_) _ (fun J18 => ?_)
      · unfold f_X2_move_k89_2
        refine x_iinc (L' := [(2, .int 2), (0, .ref hP), (1, .int xo)]) C 2 dX2_move_89 2 rfl (by decide) (by decide) rfl ?_
        refine x_goto C 43 dX2_move_92 (by decide) ?_
        refine x_iload_n C dX2_move_43 0 rfl ?_
        refine x_iconst C 3 dX2_move_44 (by decide) ?_
        refine x_icmp_ge_f C 95 dX2_move_45 (by decide) (by decide) ?_
        refine x_aload_n C dX2_move_48 1 rfl ?_
        refine x_iconst C 3 dX2_move_49 (by decide) ?_
        refine x_iload_n C dX2_move_50 0 rfl ?_
        refine x_iadd C dX2_move_51 ?_
        refine x_top 5 (by decide) ?_
        refine x_aload_n C dX2_move_52 1 rfl ?_
        refine x_iconst C 3 dX2_move_53 (by decide) ?_
        refine x_iconst C 4 dX2_move_54 (by decide) ?_
        refine x_cViW (q0 := 0) (As := [.int 3, .int 4]) C mw_200 mw_201 mw_202 mw_171 mw_192 hd_X2_push rfl rfl ⟨Nat.le_of_ble_eq_true rfl, Nat.le_of_ble_eq_true rfl⟩ rfl rfl rfl (c_X2_push l D cI cZ cO hP aP0 aP1 aP2 aP3 aP4 b12 3 4 (by omega) (by omega)) rfl rfl (Nat.le_of_ble_eq_true rfl) (Nat.zero_le _) (Nat.zero_le _) dX2_move_55 ?_
        refine x_cViW (q0 := 0) (As := [.int 5, .int (f_X2_push b12 3 4)]) C mw_203 mw_204 mw_205 mw_171 mw_193 hd_X2_shift rfl rfl ⟨Nat.le_of_ble_eq_true rfl, Nat.le_of_ble_eq_true rfl⟩ rfl rfl rfl (c_X2_shift l D cI cZ cO hP aP0 aP1 aP2 aP3 aP4 b12 5 (f_X2_push b12 3 4) (by omega)) rfl rfl (Nat.le_of_ble_eq_true rfl) (Nat.zero_le _) (Nat.zero_le _) dX2_move_58 ?_
        unfold f_X2_move_o58
        generalize f_X2_shift b12 5 (f_X2_push b12 3 4) = o13
        refine x_lsub (L' := [(0, .ref hP), (1, .int xo), (2, .int 2)]) [1, 2, 0] rfl ?_
        refine x_join (fun (b15 : St) => f_X2_move_k89 b15) 89 (fun (b15 : St) => [(0, .ref hP), (1, .int xo), (2, .int 2)]) (fun (b15 : St) => []) (fun (b15 : St) => wX2 cI cZ cO hP aP0 aP1 aP2 aP3 aP4 b15) (fun b15 => ?_) _ (fun J16 => ?_)
        · unfold f_X2_move_k89
          refine x_iinc (L' := [(2, .int 3), (0, .ref hP), (1, .int xo)]) C 3 dX2_move_89 2 rfl (by decide) (by decide) rfl ?_
          refine x_goto C 43 dX2_move_92 (by decide) ?_
          refine x_iload_n C dX2_move_43 0 rfl ?_
          refine x_iconst C 3 dX2_move_44 (by decide) ?_
          refine x_icmp_ge_t C 95 dX2_move_45 (by decide) (by decide) ?_
          exact x_vret C rfl dX2_move_95 rfl
        · refine x_if_eqZ C 89 dX2_move_61 (by decide) (fun c14 => ?_) (fun c14 => ?_)
          · refine x_aload_n C dX2_move_64 0 rfl ?_
            refine x_get (v := .ref aP1) C hwsX20 1 mw_159 0 rfl rfl (by decide) rfl rfl dX2_move_65 ?_
            refine x_iload_n C dX2_move_68 2 rfl ?_
            refine x_iald C 2 0 rfl rfl 2 rfl (by omega) (by decide) (o13.2 1 2) rfl dX2_move_69 ?_
            refine x_aload_n C dX2_move_70 0 rfl ?_
            refine x_get (v := .ref aP0) C hwsX20 0 mw_158 0 rfl rfl (by decide) rfl rfl dX2_move_71 ?_
            refine x_iload_n C dX2_move_74 2 rfl ?_
            refine x_iald C 1 0 rfl rfl 2 rfl (by omega) (by decide) (o13.2 0 2) rfl dX2_move_75 ?_
            refine x_icmp_eq C 89 dX2_move_76 (by decide) (fun c17 => ?_) (fun c17 => ?_)
            · exact J16 o13.2
            · refine x_aload_n C dX2_move_79 0 rfl ?_
              refine x_dup C dX2_move_80 rfl ?_
              refine x_get (v := .int (o13.2 10 0)) C hwsX20 10 mw_168 0 rfl rfl (by decide) rfl rfl dX2_move_81 ?_
              refine x_iconst C 1 dX2_move_84 (by decide) ?_
              refine x_iadd C dX2_move_85 ?_
              refine x_put (ws' := wX2 cI cZ cO hP aP0 aP1 aP2 aP3 aP4 (put o13.2 10 0 ((o13.2 10 0) + 1))) C hwsX20 tyX2 tyX2_ok nmX2 10 mw_168 0 rfl rfl (by decide) rfl rfl rfl rfl (Nat.le_of_ble_eq_true rfl) dX2_move_86 rfl ?_
              exact J16 (put o13.2 10 0 ((o13.2 10 0) + 1))
          · exact J16 o13.2
      · refine x_if_eqZ C 89 dX2_move_61 (by decide) (fun c11 => ?_) (fun c11 => ?_)
        · refine x_aload_n C dX2_move_64 0 rfl ?_
          refine x_get (v := .ref aP1) C hwsX20 1 mw_159 0 rfl rfl (by decide) rfl rfl dX2_move_65 ?_
          refine x_iload_n C dX2_move_68 2 rfl ?_
          refine x_iald C 2 0 rfl rfl 1 rfl (by omega) (by decide) (o10.2 1 1) rfl dX2_move_69 ?_
          refine x_aload_n C dX2_move_70 0 rfl ?_
          refine x_get (v := .ref aP0) C hwsX20 0 mw_158 0 rfl rfl (by decide) rfl rfl dX2_move_71 ?_
          refine x_iload_n C dX2_move_74 2 rfl ?_
          refine x_iald C 1 0 rfl rfl 1 rfl (by omega) (by decide) (o10.2 0 1) rfl dX2_move_75 ?_
          refine x_icmp_eq C 89 dX2_move_76 (by decide) (fun c19 => ?_) (fun c19 => ?_)
          · exact J18 o10.2
          · refine x_aload_n C dX2_move_79 0 rfl ?_
            refine x_dup C dX2_move_80 rfl ?_
            refine x_get (v := .int (o10.2 10 0)) C hwsX20 10 mw_168 0 rfl rfl (by decide) rfl rfl dX2_move_81 ?_
            refine x_iconst C 1 dX2_move_84 (by decide) ?_
            refine x_iadd C dX2_move_85 ?_
            refine x_put (ws' := wX2 cI cZ cO hP aP0 aP1 aP2 aP3 aP4 (put o10.2 10 0 ((o10.2 10 0) + 1))) C hwsX20 tyX2 tyX2_ok nmX2 10 mw_168 0 rfl rfl (by decide) rfl rfl rfl rfl (Nat.le_of_ble_eq_true rfl) dX2_move_86 rfl ?_
            exact J18 (put o10.2 10 0 ((o10.2 10 0) + 1))
        · exact J18 o10.2
    · refine x_if_eqZ C 89 dX2_move_61 (by decide) (fun c8 => ?_) (fun c8 => ?_)
      · refine x_aload_n C dX2_move_64 0 rfl ?_
        refine x_get (v := .ref aP1) C hwsX20 1 mw_159 0 rfl rfl (by decide) rfl rfl dX2_move_65 ?_
        refine x_iload_n C dX2_move_68 2 rfl ?_
        refine x_iald C 2 0 rfl rfl 0 rfl (by omega) (by decide) (o7.2 1 0) rfl dX2_move_69 ?_
        refine x_aload_n C dX2_move_70 0 rfl ?_
        refine x_get (v := .ref aP0) C hwsX20 0 mw_158 0 rfl rfl (by decide) rfl rfl dX2_move_71 ?_
        refine x_iload_n C dX2_move_74 2 rfl ?_
        refine x_iald C 1 0 rfl rfl 0 rfl (by omega) (by decide) (o7.2 0 0) rfl dX2_move_75 ?_
        refine x_icmp_eq C 89 dX2_move_76 (by decide) (fun c21 => ?_) (fun c21 => ?_)
        · exact J20 o7.2
        · refine x_aload_n C dX2_move_79 0 rfl ?_
          refine x_dup C dX2_move_80 rfl ?_
          refine x_get (v := .int (o7.2 10 0)) C hwsX20 10 mw_168 0 rfl rfl (by decide) rfl rfl dX2_move_81 ?_
          refine x_iconst C 1 dX2_move_84 (by decide) ?_
          refine x_iadd C dX2_move_85 ?_
          refine x_put (ws' := wX2 cI cZ cO hP aP0 aP1 aP2 aP3 aP4 (put o7.2 10 0 ((o7.2 10 0) + 1))) C hwsX20 tyX2 tyX2_ok nmX2 10 mw_168 0 rfl rfl (by decide) rfl rfl rfl rfl (Nat.le_of_ble_eq_true rfl) dX2_move_86 rfl ?_
          exact J20 (put o7.2 10 0 ((o7.2 10 0) + 1))
      · exact J20 o7.2
  · refine x_if_ne C 11 dX2_move_4 (by decide) (fun c1 => ?_) (fun c1 => ?_)
    · refine x_aload_n C dX2_move_7 0 rfl ?_
      refine x_cVvW (q0 := 0) (As := []) C mw_194 mw_195 mw_196 mw_171 mw_177 hd_X2_moveSwitch rfl rfl ⟨Nat.le_of_ble_eq_true rfl, Nat.le_of_ble_eq_true rfl⟩ rfl rfl rfl (c_X2_moveSwitch l D cI cZ cO hP aP0 aP1 aP2 aP3 aP4 uP ) rfl rfl (Nat.le_of_ble_eq_true rfl) (Nat.zero_le _) (Nat.zero_le _) dX2_move_8 ?_
      exact J22 (f_X2_moveSwitch uP)
    · exact J22 uP

def f_X3_feel_k181 (uS : St) (uP : St) (b2 : Bool) (b4 : Bool) (b6 : Bool) (b8 : Bool) (b10 : Bool) (b12 : Bool) (b14 : Bool) (b16 : Bool) (b18 : Bool) (b20 : Bool) (b22 : Bool) (b24 : Bool) (b26 : Bool) (b28 : Bool) : St := put (put (put (put (put (put (put (put (put (put (put (put (put (put (put (put (put (put uS 0 0 (uP 5 0)) 0 1 (f_X6_bit b2)) 0 2 (f_X6_bit b4)) 0 3 (f_X6_bit b6)) 0 6 (f_X6_bit b8)) 0 9 (f_X6_bit b10)) 0 12 (f_X6_bit b12)) 0 15 (f_X6_bit (f_X6_has (uP 9 0) 0))) 0 4 (f_X6_bit b14)) 0 7 (f_X6_bit b16)) 0 10 (f_X6_bit b18)) 0 13 (f_X6_bit b20)) 0 16 (f_X6_bit (f_X6_has (uP 9 0) 1))) 0 5 (f_X6_bit b22)) 0 8 (f_X6_bit b24)) 0 11 (f_X6_bit b26)) 0 14 (f_X6_bit b28)) 0 17 (f_X6_bit (f_X6_has (uP 9 0) 2))
def f_X3_feel_k155 (uS : St) (uP : St) (b2 : Bool) (b4 : Bool) (b6 : Bool) (b8 : Bool) (b10 : Bool) (b12 : Bool) (b14 : Bool) (b16 : Bool) (b18 : Bool) (b20 : Bool) (b22 : Bool) (b24 : Bool) (b26 : Bool) : St := f_X3_feel_k181 uS uP b2 b4 b6 b8 b10 b12 b14 b16 b18 b20 b22 b24 b26 (if (uP 1 5) = 0 then true else false)
def f_X3_feel_k123 (uS : St) (uP : St) (b2 : Bool) (b4 : Bool) (b6 : Bool) (b8 : Bool) (b10 : Bool) (b12 : Bool) (b14 : Bool) (b16 : Bool) (b18 : Bool) (b20 : Bool) (b22 : Bool) (b24 : Bool) : St := f_X3_feel_k155 uS uP b2 b4 b6 b8 b10 b12 b14 b16 b18 b20 b22 b24 (if (uP 1 5) = (uP 0 5) then true else false)
def f_X3_feel_k91 (uS : St) (uP : St) (b2 : Bool) (b4 : Bool) (b6 : Bool) (b8 : Bool) (b10 : Bool) (b12 : Bool) (b14 : Bool) (b16 : Bool) (b18 : Bool) (b20 : Bool) (b22 : Bool) : St := f_X3_feel_k123 uS uP b2 b4 b6 b8 b10 b12 b14 b16 b18 b20 b22 (if (uP 1 2) = (uP 0 2) then true else false)
def f_X3_feel_k181_2 (uS : St) (uP : St) (b2 : Bool) (b4 : Bool) (b6 : Bool) (b8 : Bool) (b10 : Bool) (b12 : Bool) (b14 : Bool) (b16 : Bool) (b18 : Bool) (b20 : Bool) : St := f_X3_feel_k91 uS uP b2 b4 b6 b8 b10 b12 b14 b16 b18 b20 (if (uP 1 2) = 0 then true else false)
def f_X3_feel_k155_2 (uS : St) (uP : St) (b2 : Bool) (b4 : Bool) (b6 : Bool) (b8 : Bool) (b10 : Bool) (b12 : Bool) (b14 : Bool) (b16 : Bool) (b18 : Bool) : St := f_X3_feel_k181_2 uS uP b2 b4 b6 b8 b10 b12 b14 b16 b18 (if (uP 1 4) = 0 then true else false)
def f_X3_feel_k123_2 (uS : St) (uP : St) (b2 : Bool) (b4 : Bool) (b6 : Bool) (b8 : Bool) (b10 : Bool) (b12 : Bool) (b14 : Bool) (b16 : Bool) : St := f_X3_feel_k155_2 uS uP b2 b4 b6 b8 b10 b12 b14 b16 (if (uP 1 4) = (uP 0 4) then true else false)
def f_X3_feel_k91_2 (uS : St) (uP : St) (b2 : Bool) (b4 : Bool) (b6 : Bool) (b8 : Bool) (b10 : Bool) (b12 : Bool) (b14 : Bool) : St := f_X3_feel_k123_2 uS uP b2 b4 b6 b8 b10 b12 b14 (if (uP 1 1) = (uP 0 1) then true else false)
def f_X3_feel_k181_3 (uS : St) (uP : St) (b2 : Bool) (b4 : Bool) (b6 : Bool) (b8 : Bool) (b10 : Bool) (b12 : Bool) : St := f_X3_feel_k91_2 uS uP b2 b4 b6 b8 b10 b12 (if (uP 1 1) = 0 then true else false)
def f_X3_feel_k155_3 (uS : St) (uP : St) (b2 : Bool) (b4 : Bool) (b6 : Bool) (b8 : Bool) (b10 : Bool) : St := f_X3_feel_k181_3 uS uP b2 b4 b6 b8 b10 (if (uP 1 3) = 0 then true else false)
def f_X3_feel_k123_3 (uS : St) (uP : St) (b2 : Bool) (b4 : Bool) (b6 : Bool) (b8 : Bool) : St := f_X3_feel_k155_3 uS uP b2 b4 b6 b8 (if (uP 1 3) = (uP 0 3) then true else false)
def f_X3_feel_k91_3 (uS : St) (uP : St) (b2 : Bool) (b4 : Bool) (b6 : Bool) : St := f_X3_feel_k123_3 uS uP b2 b4 b6 (if (uP 1 0) = (uP 0 0) then true else false)
def f_X3_feel_k55 (uS : St) (uP : St) (b2 : Bool) (b4 : Bool) : St := f_X3_feel_k91_3 uS uP b2 b4 (if (uP 1 0) = 0 then true else false)
def f_X3_feel_k29 (uS : St) (uP : St) (b2 : Bool) : St := f_X3_feel_k55 uS uP b2 (if (uP 3 0) = 360 then true else false)
def f_X3_feel (uS : St) (uP : St) : St := f_X3_feel_k29 uS uP (if (uP 6 0) = 24 then true else false)
theorem hd_X3_feel : yX3_feel.cls ≠ "java/lang/invoke/MethodHandle" ∧ yX3_feel.cls ≠ "java/lang/invoke/VarHandle" ∧ (parseMethodDescriptor yX3_feel.desc).map (fun d => d.parameters.length) = some 1 := by decide +kernel
set_option maxHeartbeats 4000000 in
set_option maxRecDepth 100000 in
theorem c_X3_feel (l : Launch) (D : va_G) (cI cZ cO : ClassId) (hS aS0 aS1 hP aP0 aP1 aP2 aP3 aP4 : Nat) (uS : St) (uP : St)  : CTv l D (T3 cI cZ cO) yX3_feel (Cond.code yX3_feel cX3_feel 4 none :: WA) ({ frames := 1, cells := 0, slots := 0, locals := 21 } : Room) [.ref hS, .ref hP] (wX3 cI cZ cO hS aS0 aS1 uS ++ wX2 cI cZ cO hP aP0 aP1 aP2 aP3 aP4 uP) (wX3 cI cZ cO hS aS0 aS1 (f_X3_feel uS uP) ++ wX2 cI cZ cO hP aP0 aP1 aP2 aP3 aP4 uP) := by
  refine ct_v (K := fun z => z) (t := f_X3_feel uS uP) (wf := fun o => wX3 cI cZ cO hS aS0 aS1 o ++ wX2 cI cZ cO hP aP0 aP1 aP2 aP3 aP4 uP) (own := RX3) (nm := "feel") (L0 := [(0, .ref hS), (1, .ref hP)]) (plainFor_of_name (by decide +kernel)) rfl rfl (Nat.le_of_ble_eq_true rfl) rfl ?_
  intro p e s m args below meth c A C
  unfold f_X3_feel
  refine x_aload_n C dX3_feel_0 0 rfl ?_
  refine x_get (v := .ref aS0) C hwsX30 0 mw_60 0 rfl rfl (by decide) rfl rfl dX3_feel_1 ?_
  refine x_iconst C 0 dX3_feel_4 (by decide) ?_
  refine x_aload_n C dX3_feel_5 1 rfl ?_
  refine x_get (v := .int (uP 5 0)) C hwsX20 5 mw_210 3 rfl rfl (by decide) rfl rfl dX3_feel_6 ?_
  refine x_iast (ws' := wX3 cI cZ cO hS aS0 aS1 (put uS 0 0 (uP 5 0)) ++ wX2 cI cZ cO hP aP0 aP1 aP2 aP3 aP4 uP) C 1 0 rfl rfl 0 rfl (by omega) (by decide) dX3_feel_9 rfl ?_
  refine x_aload_n C dX3_feel_10 0 rfl ?_
  refine x_get (v := .ref aS0) C hwsX30 0 mw_60 0 rfl rfl (by decide) rfl rfl dX3_feel_11 ?_
  refine x_iconst C 1 dX3_feel_14 (by decide) ?_
  refine x_aload_n C dX3_feel_15 1 rfl ?_
  refine x_get (v := .int (uP 6 0)) C hwsX20 6 mw_211 3 rfl rfl (by decide) rfl rfl dX3_feel_16 ?_
  refine x_bipush C 24 dX3_feel_19 (by decide) ?_
  refine x_join (fun (b2 : Bool) => f_X3_feel_k29 uS uP b2) 29 (fun (b2 : Bool) => [(0, .ref hS), (1, .ref hP)]) (fun (b2 : Bool) => [.int (b2i b2), .int 1, .ref aS0]) (fun (b2 : Bool) => wX3 cI cZ cO hS aS0 aS1 (put uS 0 0 (uP 5 0)) ++ wX2 cI cZ cO hP aP0 aP1 aP2 aP3 aP4 uP) (fun b2 => ?_) _ (fun J42 => ?_)
  · unfold f_X3_feel_k29
    refine x_cNi (As := [.int (b2i b2)]) (ws' := wX3 cI cZ cO hS aS0 aS1 (put uS 0 0 (uP 5 0)) ++ wX2 cI cZ cO hP aP0 aP1 aP2 aP3 aP4 uP) C C.2.2.2.1.2.2.2.1 mw_72 mw_37 mw_66 hd_X6_bit rfl rfl ⟨Nat.le_of_ble_eq_true rfl, Nat.le_of_ble_eq_true rfl⟩ (c_X6_bit l D cI cZ cO  b2 ) [] [.inl 0, .inl 1, .inl 2, .inl 3, .inl 4, .inl 5, .inl 6, .inl 7, .inl 8] trivial rfl ⟨rfl, rfl, rfl, rfl, rfl, rfl, rfl, rfl, rfl, trivial⟩ rfl ⟨rfl, rfl, rfl, rfl, rfl, rfl, rfl, rfl, rfl, trivial⟩ rfl rfl (Nat.le_of_ble_eq_true rfl) (Nat.zero_le _) (Nat.zero_le _) dX3_feel_29 ?_
    refine x_iast (ws' := wX3 cI cZ cO hS aS0 aS1 (put (put uS 0 0 (uP 5 0)) 0 1 (f_X6_bit b2)) ++ wX2 cI cZ cO hP aP0 aP1 aP2 aP3 aP4 uP) C 1 0 rfl rfl 1 rfl (by omega) (by decide) dX3_feel_32 rfl ?_
    refine x_aload_n C dX3_feel_33 0 rfl ?_
    refine x_get (v := .ref aS0) C hwsX30 0 mw_60 0 rfl rfl (by decide) rfl rfl dX3_feel_34 ?_
    refine x_iconst C 2 dX3_feel_37 (by decide) ?_
    refine x_aload_n C dX3_feel_38 1 rfl ?_
    refine x_get (v := .ref aP3) C hwsX20 3 mw_212 3 rfl rfl (by decide) rfl rfl dX3_feel_39 ?_
    refine x_iconst C 0 dX3_feel_42 (by decide) ?_
    refine x_iald C 7 0 rfl rfl 0 rfl (by omega) (by decide) (uP 3 0) rfl dX3_feel_43 ?_
    refine x_sipush C 360 dX3_feel_44 (by decide) ?_
    refine x_join (fun (b4 : Bool) => f_X3_feel_k55 uS uP b2 b4) 55 (fun (b4 : Bool) => [(0, .ref hS), (1, .ref hP)]) (fun (b4 : Bool) => [.int (b2i b4), .int 2, .ref aS0]) (fun (b4 : Bool) => wX3 cI cZ cO hS aS0 aS1 (put (put uS 0 0 (uP 5 0)) 0 1 (f_X6_bit b2)) ++ wX2 cI cZ cO hP aP0 aP1 aP2 aP3 aP4 uP) (fun b4 => ?_) _ (fun J41 => ?_)
    · unfold f_X3_feel_k55
      refine x_cNi (As := [.int (b2i b4)]) (ws' := wX3 cI cZ cO hS aS0 aS1 (put (put uS 0 0 (uP 5 0)) 0 1 (f_X6_bit b2)) ++ wX2 cI cZ cO hP aP0 aP1 aP2 aP3 aP4 uP) C C.2.2.2.1.2.2.2.1 mw_72 mw_37 mw_66 hd_X6_bit rfl rfl ⟨Nat.le_of_ble_eq_true rfl, Nat.le_of_ble_eq_true rfl⟩ (c_X6_bit l D cI cZ cO  b4 ) [] [.inl 0, .inl 1, .inl 2, .inl 3, .inl 4, .inl 5, .inl 6, .inl 7, .inl 8] trivial rfl ⟨rfl, rfl, rfl, rfl, rfl, rfl, rfl, rfl, rfl, trivial⟩ rfl ⟨rfl, rfl, rfl, rfl, rfl, rfl, rfl, rfl, rfl, trivial⟩ rfl rfl (Nat.le_of_ble_eq_true rfl) (Nat.zero_le _) (Nat.zero_le _) dX3_feel_55 ?_
      refine x_iast (ws' := wX3 cI cZ cO hS aS0 aS1 (put (put (put uS 0 0 (uP 5 0)) 0 1 (f_X6_bit b2)) 0 2 (f_X6_bit b4)) ++ wX2 cI cZ cO hP aP0 aP1 aP2 aP3 aP4 uP) C 1 0 rfl rfl 2 rfl (by omega) (by decide) dX3_feel_58 rfl ?_
      refine x_iconst C 0 dX3_feel_59 (by decide) ?_
      refine x_istore_n (L' := [(2, .int 0), (0, .ref hS), (1, .ref hP)]) C dX3_feel_60 (by decide) rfl ?_
      refine x_iload_n C dX3_feel_61 0 rfl ?_
      refine x_iconst C 3 dX3_feel_62 (by decide) ?_
      refine x_icmp_ge_f C 211 dX3_feel_63 (by decide) (by decide) ?_
      refine x_iconst C 3 dX3_feel_66 (by decide) ?_
      refine x_iload_n C dX3_feel_67 0 rfl ?_
      refine x_iadd C dX3_feel_68 ?_
      refine x_top 3 (by decide) ?_
      refine x_istore_n (L' := [(3, .int 3), (2, .int 0), (0, .ref hS), (1, .ref hP)]) C dX3_feel_69 (by decide) rfl ?_
      refine x_aload_n C dX3_feel_70 2 rfl ?_
      refine x_get (v := .ref aS0) C hwsX30 0 mw_60 0 rfl rfl (by decide) rfl rfl dX3_feel_71 ?_
      refine x_iconst C 3 dX3_feel_74 (by decide) ?_
      refine x_iload_n C dX3_feel_75 1 rfl ?_
      refine x_iadd C dX3_feel_76 ?_
      refine x_top 3 (by decide) ?_
      refine x_aload_n C dX3_feel_77 3 rfl ?_
      refine x_get (v := .ref aP1) C hwsX20 1 mw_213 3 rfl rfl (by decide) rfl rfl dX3_feel_78 ?_
      refine x_iload_n C dX3_feel_81 1 rfl ?_
      refine x_iald C 5 0 rfl rfl 0 rfl (by omega) (by decide) (uP 1 0) rfl dX3_feel_82 ?_
      refine x_join (fun (b6 : Bool) => f_X3_feel_k91_3 uS uP b2 b4 b6) 91 (fun (b6 : Bool) => [(0, .ref hS), (1, .ref hP), (2, .int 0), (3, .int 3)]) (fun (b6 : Bool) => [.int (b2i b6), .int 3, .ref aS0]) (fun (b6 : Bool) => wX3 cI cZ cO hS aS0 aS1 (put (put (put uS 0 0 (uP 5 0)) 0 1 (f_X6_bit b2)) 0 2 (f_X6_bit b4)) ++ wX2 cI cZ cO hP aP0 aP1 aP2 aP3 aP4 uP) (fun b6 => ?_) _ (fun J40 => ?_)
      · unfold f_X3_feel_k91_3
        refine x_cNi (As := [.int (b2i b6)]) (ws' := wX3 cI cZ cO hS aS0 aS1 (put (put (put uS 0 0 (uP 5 0)) 0 1 (f_X6_bit b2)) 0 2 (f_X6_bit b4)) ++ wX2 cI cZ cO hP aP0 aP1 aP2 aP3 aP4 uP) C C.2.2.2.1.2.2.2.1 mw_72 mw_37 mw_66 hd_X6_bit rfl rfl ⟨Nat.le_of_ble_eq_true rfl, Nat.le_of_ble_eq_true rfl⟩ (c_X6_bit l D cI cZ cO  b6 ) [] [.inl 0, .inl 1, .inl 2, .inl 3, .inl 4, .inl 5, .inl 6, .inl 7, .inl 8] trivial rfl ⟨rfl, rfl, rfl, rfl, rfl, rfl, rfl, rfl, rfl, trivial⟩ rfl ⟨rfl, rfl, rfl, rfl, rfl, rfl, rfl, rfl, rfl, trivial⟩ rfl rfl (Nat.le_of_ble_eq_true rfl) (Nat.zero_le _) (Nat.zero_le _) dX3_feel_91 ?_
        refine x_iast (ws' := wX3 cI cZ cO hS aS0 aS1 (put (put (put (put uS 0 0 (uP 5 0)) 0 1 (f_X6_bit b2)) 0 2 (f_X6_bit b4)) 0 3 (f_X6_bit b6)) ++ wX2 cI cZ cO hP aP0 aP1 aP2 aP3 aP4 uP) C 1 0 rfl rfl 3 rfl (by omega) (by decide) dX3_feel_94 rfl ?_
        refine x_aload_n C dX3_feel_95 0 rfl ?_
        refine x_get (v := .ref aS0) C hwsX30 0 mw_60 0 rfl rfl (by decide) rfl rfl dX3_feel_96 ?_
        refine x_bipush C 6 dX3_feel_99 (by decide) ?_
        refine x_iload_n C dX3_feel_101 2 rfl ?_
        refine x_iadd C dX3_feel_102 ?_
        refine x_top 6 (by decide) ?_
        refine x_aload_n C dX3_feel_103 1 rfl ?_
        refine x_get (v := .ref aP1) C hwsX20 1 mw_213 3 rfl rfl (by decide) rfl rfl dX3_feel_104 ?_
        refine x_iload_n C dX3_feel_107 2 rfl ?_
        refine x_iald C 5 0 rfl rfl 0 rfl (by omega) (by decide) (uP 1 0) rfl dX3_feel_108 ?_
        refine x_aload_n C dX3_feel_109 1 rfl ?_
        refine x_get (v := .ref aP0) C hwsX20 0 mw_214 3 rfl rfl (by decide) rfl rfl dX3_feel_110 ?_
        refine x_iload_n C dX3_feel_113 2 rfl ?_
        refine x_iald C 4 0 rfl rfl 0 rfl (by omega) (by decide) (uP 0 0) rfl dX3_feel_114 ?_
        refine x_join (fun (b8 : Bool) => f_X3_feel_k123_3 uS uP b2 b4 b6 b8) 123 (fun (b8 : Bool) => [(0, .ref hS), (1, .ref hP), (2, .int 0), (3, .int 3)]) (fun (b8 : Bool) => [.int (b2i b8), .int 6, .ref aS0]) (fun (b8 : Bool) => wX3 cI cZ cO hS aS0 aS1 (put (put (put (put uS 0 0 (uP 5 0)) 0 1 (f_X6_bit b2)) 0 2 (f_X6_bit b4)) 0 3 (f_X6_bit b6)) ++ wX2 cI cZ cO hP aP0 aP1 aP2 aP3 aP4 uP) (fun b8 => ?_) _ (fun J39 => ?_)
        · unfold f_X3_feel_k123_3
          refine x_cNi (As := [.int (b2i b8)]) (ws' := wX3 cI cZ cO hS aS0 aS1 (put (put (put (put uS 0 0 (uP 5 0)) 0 1 (f_X6_bit b2)) 0 2 (f_X6_bit b4)) 0 3 (f_X6_bit b6)) ++ wX2 cI cZ cO hP aP0 aP1 aP2 aP3 aP4 uP) C C.2.2.2.1.2.2.2.1 mw_72 mw_37 mw_66 hd_X6_bit rfl rfl ⟨Nat.le_of_ble_eq_true rfl, Nat.le_of_ble_eq_true rfl⟩ (c_X6_bit l D cI cZ cO  b8 ) [] [.inl 0, .inl 1, .inl 2, .inl 3, .inl 4, .inl 5, .inl 6, .inl 7, .inl 8] trivial rfl ⟨rfl, rfl, rfl, rfl, rfl, rfl, rfl, rfl, rfl, trivial⟩ rfl ⟨rfl, rfl, rfl, rfl, rfl, rfl, rfl, rfl, rfl, trivial⟩ rfl rfl (Nat.le_of_ble_eq_true rfl) (Nat.zero_le _) (Nat.zero_le _) dX3_feel_123 ?_
          refine x_iast (ws' := wX3 cI cZ cO hS aS0 aS1 (put (put (put (put (put uS 0 0 (uP 5 0)) 0 1 (f_X6_bit b2)) 0 2 (f_X6_bit b4)) 0 3 (f_X6_bit b6)) 0 6 (f_X6_bit b8)) ++ wX2 cI cZ cO hP aP0 aP1 aP2 aP3 aP4 uP) C 1 0 rfl rfl 6 rfl (by omega) (by decide) dX3_feel_126 rfl ?_
          refine x_aload_n C dX3_feel_127 0 rfl ?_
          refine x_get (v := .ref aS0) C hwsX30 0 mw_60 0 rfl rfl (by decide) rfl rfl dX3_feel_128 ?_
          refine x_bipush C 9 dX3_feel_131 (by decide) ?_
          refine x_iload_n C dX3_feel_133 2 rfl ?_
          refine x_iadd C dX3_feel_134 ?_
          refine x_top 9 (by decide) ?_
          refine x_aload_n C dX3_feel_135 1 rfl ?_
          refine x_get (v := .ref aP1) C hwsX20 1 mw_213 3 rfl rfl (by decide) rfl rfl dX3_feel_136 ?_
          refine x_iload_n C dX3_feel_139 3 rfl ?_
          refine x_iald C 5 0 rfl rfl 3 rfl (by omega) (by decide) (uP 1 3) rfl dX3_feel_140 ?_
          refine x_aload_n C dX3_feel_141 1 rfl ?_
          refine x_get (v := .ref aP0) C hwsX20 0 mw_214 3 rfl rfl (by decide) rfl rfl dX3_feel_142 ?_
          refine x_iload_n C dX3_feel_145 3 rfl ?_
          refine x_iald C 4 0 rfl rfl 3 rfl (by omega) (by decide) (uP 0 3) rfl dX3_feel_146 ?_
          refine x_join (fun (b10 : Bool) => f_X3_feel_k155_3 uS uP b2 b4 b6 b8 b10) 155 (fun (b10 : Bool) => [(0, .ref hS), (1, .ref hP), (2, .int 0), (3, .int 3)]) (fun (b10 : Bool) => [.int (b2i b10), .int 9, .ref aS0]) (fun (b10 : Bool) => wX3 cI cZ cO hS aS0 aS1 (put (put (put (put (put uS 0 0 (uP 5 0)) 0 1 (f_X6_bit b2)) 0 2 (f_X6_bit b4)) 0 3 (f_X6_bit b6)) 0 6 (f_X6_bit b8)) ++ wX2 cI cZ cO hP aP0 aP1 aP2 aP3 aP4 uP) (fun b10 => ?_) _ (fun J38 => ?_)
          · unfold f_X3_feel_k155_3
            refine x_cNi (As := [.int (b2i b10)]) (ws' := wX3 cI cZ cO hS aS0 aS1 (put (put (put (put (put uS 0 0 (uP 5 0)) 0 1 (f_X6_bit b2)) 0 2 (f_X6_bit b4)) 0 3 (f_X6_bit b6)) 0 6 (f_X6_bit b8)) ++ wX2 cI cZ cO hP aP0 aP1 aP2 aP3 aP4 uP) C C.2.2.2.1.2.2.2.1 mw_72 mw_37 mw_66 hd_X6_bit rfl rfl ⟨Nat.le_of_ble_eq_true rfl, Nat.le_of_ble_eq_true rfl⟩ (c_X6_bit l D cI cZ cO  b10 ) [] [.inl 0, .inl 1, .inl 2, .inl 3, .inl 4, .inl 5, .inl 6, .inl 7, .inl 8] trivial rfl ⟨rfl, rfl, rfl, rfl, rfl, rfl, rfl, rfl, rfl, trivial⟩ rfl ⟨rfl, rfl, rfl, rfl, rfl, rfl, rfl, rfl, rfl, trivial⟩ rfl rfl (Nat.le_of_ble_eq_true rfl) (Nat.zero_le _) (Nat.zero_le _) dX3_feel_155 ?_
            refine x_iast (ws' := wX3 cI cZ cO hS aS0 aS1 (put (put (put (put (put (put uS 0 0 (uP 5 0)) 0 1 (f_X6_bit b2)) 0 2 (f_X6_bit b4)) 0 3 (f_X6_bit b6)) 0 6 (f_X6_bit b8)) 0 9 (f_X6_bit b10)) ++ wX2 cI cZ cO hP aP0 aP1 aP2 aP3 aP4 uP) C 1 0 rfl rfl 9 rfl (by omega) (by decide) dX3_feel_158 rfl ?_
            refine x_aload_n C dX3_feel_159 0 rfl ?_
            refine x_get (v := .ref aS0) C hwsX30 0 mw_60 0 rfl rfl (by decide) rfl rfl dX3_feel_160 ?_
            refine x_bipush C 12 dX3_feel_163 (by decide) ?_
            refine x_iload_n C dX3_feel_165 2 rfl ?_
            refine x_iadd C dX3_feel_166 ?_
            refine x_top 12 (by decide) ?_
            refine x_aload_n C dX3_feel_167 1 rfl ?_
            refine x_get (v := .ref aP1) C hwsX20 1 mw_213 3 rfl rfl (by decide) rfl rfl dX3_feel_168 ?_
            refine x_iload_n C dX3_feel_171 3 rfl ?_
            refine x_iald C 5 0 rfl rfl 3 rfl (by omega) (by decide) (uP 1 3) rfl dX3_feel_172 ?_
            refine x_join (fun (b12 : Bool) => f_X3_feel_k181_3 uS uP b2 b4 b6 b8 b10 b12) 181 (fun (b12 : Bool) => [(0, .ref hS), (1, .ref hP), (2, .int 0), (3, .int 3)]) (fun (b12 : Bool) => [.int (b2i b12), .int 12, .ref aS0]) (fun (b12 : Bool) => wX3 cI cZ cO hS aS0 aS1 (put (put (put (put (put (put uS 0 0 (uP 5 0)) 0 1 (f_X6_bit b2)) 0 2 (f_X6_bit b4)) 0 3 (f_X6_bit b6)) 0 6 (f_X6_bit b8)) 0 9 (f_X6_bit b10)) ++ wX2 cI cZ cO hP aP0 aP1 aP2 aP3 aP4 uP) (fun b12 => ?_) _ (fun J37 => ?_)
            · unfold f_X3_feel_k181_3
              refine x_cNi (As := [.int (b2i b12)]) (ws' := wX3 cI cZ cO hS aS0 aS1 (put (put (put (put (put (put uS 0 0 (uP 5 0)) 0 1 (f_X6_bit b2)) 0 2 (f_X6_bit b4)) 0 3 (f_X6_bit b6)) 0 6 (f_X6_bit b8)) 0 9 (f_X6_bit b10)) ++ wX2 cI cZ cO hP aP0 aP1 aP2 aP3 aP4 uP) C C.2.2.2.1.2.2.2.1 mw_72 mw_37 mw_66 hd_X6_bit rfl rfl ⟨Nat.le_of_ble_eq_true rfl, Nat.le_of_ble_eq_true rfl⟩ (c_X6_bit l D cI cZ cO  b12 ) [] [.inl 0, .inl 1, .inl 2, .inl 3, .inl 4, .inl 5, .inl 6, .inl 7, .inl 8] trivial rfl ⟨rfl, rfl, rfl, rfl, rfl, rfl, rfl, rfl, rfl, trivial⟩ rfl ⟨rfl, rfl, rfl, rfl, rfl, rfl, rfl, rfl, rfl, trivial⟩ rfl rfl (Nat.le_of_ble_eq_true rfl) (Nat.zero_le _) (Nat.zero_le _) dX3_feel_181 ?_
              refine x_iast (ws' := wX3 cI cZ cO hS aS0 aS1 (put (put (put (put (put (put (put uS 0 0 (uP 5 0)) 0 1 (f_X6_bit b2)) 0 2 (f_X6_bit b4)) 0 3 (f_X6_bit b6)) 0 6 (f_X6_bit b8)) 0 9 (f_X6_bit b10)) 0 12 (f_X6_bit b12)) ++ wX2 cI cZ cO hP aP0 aP1 aP2 aP3 aP4 uP) C 1 0 rfl rfl 12 rfl (by omega) (by decide) dX3_feel_184 rfl ?_
              refine x_aload_n C dX3_feel_185 0 rfl ?_
              refine x_get (v := .ref aS0) C hwsX30 0 mw_60 0 rfl rfl (by decide) rfl rfl dX3_feel_186 ?_
              refine x_bipush C 15 dX3_feel_189 (by decide) ?_
              refine x_iload_n C dX3_feel_191 2 rfl ?_
              refine x_iadd C dX3_feel_192 ?_
              refine x_top 15 (by decide) ?_
              refine x_aload_n C dX3_feel_193 1 rfl ?_
              refine x_get (v := .int (uP 9 0)) C hwsX20 9 mw_215 3 rfl rfl (by decide) rfl rfl dX3_feel_194 ?_
              refine x_iload_n C dX3_feel_197 2 rfl ?_
              refine x_cNi (As := [.int (uP 9 0), .int 0]) (ws' := wX3 cI cZ cO hS aS0 aS1 (put (put (put (put (put (put (put uS 0 0 (uP 5 0)) 0 1 (f_X6_bit b2)) 0 2 (f_X6_bit b4)) 0 3 (f_X6_bit b6)) 0 6 (f_X6_bit b8)) 0 9 (f_X6_bit b10)) 0 12 (f_X6_bit b12)) ++ wX2 cI cZ cO hP aP0 aP1 aP2 aP3 aP4 uP) C C.2.2.2.1.2.2.2.2.1 mw_108 mw_37 mw_105 hd_X6_has rfl rfl ⟨Nat.le_of_ble_eq_true rfl, Nat.le_of_ble_eq_true rfl⟩ (c_X6_has l D cI cZ cO  (uP 9 0) 0 ) [] [.inl 0, .inl 1, .inl 2, .inl 3, .inl 4, .inl 5, .inl 6, .inl 7, .inl 8] trivial rfl ⟨rfl, rfl, rfl, rfl, rfl, rfl, rfl, rfl, rfl, trivial⟩ rfl ⟨rfl, rfl, rfl, rfl, rfl, rfl, rfl, rfl, rfl, trivial⟩ rfl rfl (Nat.le_of_ble_eq_true rfl) (Nat.zero_le _) (Nat.zero_le _) dX3_feel_198 ?_
              refine x_cNi (As := [.int (b2i (f_X6_has (uP 9 0) 0))]) (ws' := wX3 cI cZ cO hS aS0 aS1 (put (put (put (put (put (put (put uS 0 0 (uP 5 0)) 0 1 (f_X6_bit b2)) 0 2 (f_X6_bit b4)) 0 3 (f_X6_bit b6)) 0 6 (f_X6_bit b8)) 0 9 (f_X6_bit b10)) 0 12 (f_X6_bit b12)) ++ wX2 cI cZ cO hP aP0 aP1 aP2 aP3 aP4 uP) C C.2.2.2.1.2.2.2.1 mw_72 mw_37 mw_66 hd_X6_bit rfl rfl ⟨Nat.le_of_ble_eq_true rfl, Nat.le_of_ble_eq_true rfl⟩ (c_X6_bit l D cI cZ cO  (f_X6_has (uP 9 0) 0) ) [] [.inl 0, .inl 1, .inl 2, .inl 3, .inl 4, .inl 5, .inl 6, .inl 7, .inl 8] trivial rfl ⟨rfl, rfl, rfl, rfl, rfl, rfl, rfl, rfl, rfl, trivial⟩ rfl ⟨rfl, rfl, rfl, rfl, rfl, rfl, rfl, rfl, rfl, trivial⟩ rfl rfl (Nat.le_of_ble_eq_true rfl) (Nat.zero_le _) (Nat.zero_le _) dX3_feel_201 ?_
              refine x_iast (ws' := wX3 cI cZ cO hS aS0 aS1 (put (put (put (put (put (put (put (put uS 0 0 (uP 5 0)) 0 1 (f_X6_bit b2)) 0 2 (f_X6_bit b4)) 0 3 (f_X6_bit b6)) 0 6 (f_X6_bit b8)) 0 9 (f_X6_bit b10)) 0 12 (f_X6_bit b12)) 0 15 (f_X6_bit (f_X6_has (uP 9 0) 0))) ++ wX2 cI cZ cO hP aP0 aP1 aP2 aP3 aP4 uP) C 1 0 rfl rfl 15 rfl (by omega) (by decide) dX3_feel_204 rfl ?_
              refine x_iinc (L' := [(2, .int 1), (0, .ref hS), (1, .ref hP), (3, .int 3)]) C 1 dX3_feel_205 2 rfl (by decide) (by decide) rfl ?_
              refine x_goto C 61 dX3_feel_208 (by decide) ?_
              refine x_iload_n C dX3_feel_61 0 rfl ?_
              refine x_iconst C 3 dX3_feel_62 (by decide) ?_
              refine x_icmp_ge_f C 211 dX3_feel_63 (by decide) (by decide) ?_
              refine x_iconst C 3 dX3_feel_66 (by decide) ?_
              refine x_iload_n C dX3_feel_67 0 rfl ?_
              refine x_iadd C dX3_feel_68 ?_
              refine x_top 4 (by decide) ?_
              refine x_istore_n (L' := [(3, .int 4), (2, .int 1), (0, .ref hS), (1, .ref hP)]) C dX3_feel_69 (by decide) rfl ?_
              refine x_aload_n C dX3_feel_70 2 rfl ?_
              refine x_get (v := .ref aS0) C hwsX30 0 mw_60 0 rfl rfl (by decide) rfl rfl dX3_feel_71 ?_
              refine x_iconst C 3 dX3_feel_74 (by decide) ?_
              refine x_iload_n C dX3_feel_75 1 rfl ?_
              refine x_iadd C dX3_feel_76 ?_
              refine x_top 4 (by decide) ?_
              refine x_aload_n C dX3_feel_77 3 rfl ?_
              refine x_get (v := .ref aP1) C hwsX20 1 mw_213 3 rfl rfl (by decide) rfl rfl dX3_feel_78 ?_
              refine x_iload_n C dX3_feel_81 1 rfl ?_
              refine x_iald C 5 0 rfl rfl 1 rfl (by omega) (by decide) (uP 1 1) rfl dX3_feel_82 ?_
              refine x_join (fun (b14 : Bool) => f_X3_feel_k91_2 uS uP b2 b4 b6 b8 b10 b12 b14) 91 (fun (b14 : Bool) => [(0, .ref hS), (1, .ref hP), (2, .int 1), (3, .int 4)]) (fun (b14 : Bool) => [.int (b2i b14), .int 4, .ref aS0]) (fun (b14 : Bool) => wX3 cI cZ cO hS aS0 aS1 (put (put (put (put (put (put (put (put uS 0 0 (uP 5 0)) 0 1 (f_X6_bit b2)) 0 2 (f_X6_bit b4)) 0 3 (f_X6_bit b6)) 0 6 (f_X6_bit b8)) 0 9 (f_X6_bit b10)) 0 12 (f_X6_bit b12)) 0 15 (f_X6_bit (f_X6_has (uP 9 0) 0))) ++ wX2 cI cZ cO hP aP0 aP1 aP2 aP3 aP4 uP) (fun b14 => ?_) _ (fun J36 => ?_)
              · unfold f_X3_feel_k91_2
                refine x_cNi (As := [.int (b2i b14)]) (ws' := wX3 cI cZ cO hS aS0 aS1 (put (put (put (put (put (put (put (put uS 0 0 (uP 5 0)) 0 1 (f_X6_bit b2)) 0 2 (f_X6_bit b4)) 0 3 (f_X6_bit b6)) 0 6 (f_X6_bit b8)) 0 9 (f_X6_bit b10)) 0 12 (f_X6_bit b12)) 0 15 (f_X6_bit (f_X6_has (uP 9 0) 0))) ++ wX2 cI cZ cO hP aP0 aP1 aP2 aP3 aP4 uP) C C.2.2.2.1.2.2.2.1 mw_72 mw_37 mw_66 hd_X6_bit rfl rfl ⟨Nat.le_of_ble_eq_true rfl, Nat.le_of_ble_eq_true rfl⟩ (c_X6_bit l D cI cZ cO  b14 ) [] [.inl 0, .inl 1, .inl 2, .inl 3, .inl 4, .inl 5, .inl 6, .inl 7, .inl 8] trivial rfl ⟨rfl, rfl, rfl, rfl, rfl, rfl, rfl, rfl, rfl, trivial⟩ rfl ⟨rfl, rfl, rfl, rfl, rfl, rfl, rfl, rfl, rfl, trivial⟩ rfl rfl (Nat.le_of_ble_eq_true rfl) (Nat.zero_le _) (Nat.zero_le _) dX3_feel_91 ?_
                refine x_iast (ws' := wX3 cI cZ cO hS aS0 aS1 (put (put (put (put (put (put (put (put (put uS 0 0 (uP 5 0)) 0 1 (f_X6_bit b2)) 0 2 (f_X6_bit b4)) 0 3 (f_X6_bit b6)) 0 6 (f_X6_bit b8)) 0 9 (f_X6_bit b10)) 0 12 (f_X6_bit b12)) 0 15 (f_X6_bit (f_X6_has (uP 9 0) 0))) 0 4 (f_X6_bit b14)) ++ wX2 cI cZ cO hP aP0 aP1 aP2 aP3 aP4 uP) C 1 0 rfl rfl 4 rfl (by omega) (by decide) dX3_feel_94 rfl ?_
                refine x_aload_n C dX3_feel_95 0 rfl ?_
                refine x_get (v := .ref aS0) C hwsX30 0 mw_60 0 rfl rfl (by decide) rfl rfl dX3_feel_96 ?_
                refine x_bipush C 6 dX3_feel_99 (by decide) ?_
                refine x_iload_n C dX3_feel_101 2 rfl ?_
                refine x_iadd C dX3_feel_102 ?_
                refine x_top 7 (by decide) ?_
                refine x_aload_n C dX3_feel_103 1 rfl ?_
                refine x_get (v := .ref aP1) C hwsX20 1 mw_213 3 rfl rfl (by decide) rfl rfl dX3_feel_104 ?_
                refine x_iload_n C dX3_feel_107 2 rfl ?_
                refine x_iald C 5 0 rfl rfl 1 rfl (by omega) (by decide) (uP 1 1) rfl dX3_feel_108 ?_
                refine x_aload_n C dX3_feel_109 1 rfl ?_
                refine x_get (v := .ref aP0) C hwsX20 0 mw_214 3 rfl rfl (by decide) rfl rfl dX3_feel_110 ?_
                refine x_iload_n C dX3_feel_113 2 rfl ?_
                refine x_iald C 4 0 rfl rfl 1 rfl (by omega) (by decide) (uP 0 1) rfl dX3_feel_114 ?_
                refine x_join (fun (b16 : Bool) => f_X3_feel_k123_2 uS uP b2 b4 b6 b8 b10 b12 b14 b16) 123 (fun (b16 : Bool) => [(0, .ref hS), (1, .ref hP), (2, .int 1), (3, .int 4)]) (fun (b16 : Bool) => [.int (b2i b16), .int 7, .ref aS0]) (fun (b16 : Bool) => wX3 cI cZ cO hS aS0 aS1 (put (put (put (put (put (put (put (put (put uS 0 0 (uP 5 0)) 0 1 (f_X6_bit b2)) 0 2 (f_X6_bit b4)) 0 3 (f_X6_bit b6)) 0 6 (f_X6_bit b8)) 0 9 (f_X6_bit b10)) 0 12 (f_X6_bit b12)) 0 15 (f_X6_bit (f_X6_has (uP 9 0) 0))) 0 4 (f_X6_bit b14)) ++ wX2 cI cZ cO hP aP0 aP1 aP2 aP3 aP4 uP) (fun b16 => ?_) _ (fun J35 => ?_)
                · unfold f_X3_feel_k123_2
                  refine x_cNi (As := [.int (b2i b16)]) (ws' := wX3 cI cZ cO hS aS0 aS1 (put (put (put (put (put (put (put (put (put uS 0 0 (uP 5 0)) 0 1 (f_X6_bit b2)) 0 2 (f_X6_bit b4)) 0 3 (f_X6_bit b6)) 0 6 (f_X6_bit b8)) 0 9 (f_X6_bit b10)) 0 12 (f_X6_bit b12)) 0 15 (f_X6_bit (f_X6_has (uP 9 0) 0))) 0 4 (f_X6_bit b14)) ++ wX2 cI cZ cO hP aP0 aP1 aP2 aP3 aP4 uP) C C.2.2.2.1.2.2.2.1 mw_72 mw_37 mw_66 hd_X6_bit rfl rfl ⟨Nat.le_of_ble_eq_true rfl, Nat.le_of_ble_eq_true rfl⟩ (c_X6_bit l D cI cZ cO  b16 ) [] [.inl 0, .inl 1, .inl 2, .inl 3, .inl 4, .inl 5, .inl 6, .inl 7, .inl 8] trivial rfl ⟨rfl, rfl, rfl, rfl, rfl, rfl, rfl, rfl, rfl, trivial⟩ rfl ⟨rfl, rfl, rfl, rfl, rfl, rfl, rfl, rfl, rfl, trivial⟩ rfl rfl (Nat.le_of_ble_eq_true rfl) (Nat.zero_le _) (Nat.zero_le _) dX3_feel_123 ?_
                  refine x_iast (ws' := wX3 cI cZ cO hS aS0 aS1 (put (put (put (put (put (put (put (put (put (put uS 0 0 (uP 5 0)) 0 1 (f_X6_bit b2)) 0 2 (f_X6_bit b4)) 0 3 (f_X6_bit b6)) 0 6 (f_X6_bit b8)) 0 9 (f_X6_bit b10)) 0 12 (f_X6_bit b12)) 0 15 (f_X6_bit (f_X6_has (uP 9 0) 0))) 0 4 (f_X6_bit b14)) 0 7 (f_X6_bit b16)) ++ wX2 cI cZ cO hP aP0 aP1 aP2 aP3 aP4 uP) C 1 0 rfl rfl 7 rfl (by omega) (by decide) dX3_feel_126 rfl ?_
                  refine x_aload_n C dX3_feel_127 0 rfl ?_
                  refine x_get (v := .ref aS0) C hwsX30 0 mw_60 0 rfl rfl (by decide) rfl rfl dX3_feel_128 ?_
                  refine x_bipush C 9 dX3_feel_131 (by decide) ?_
                  refine x_iload_n C dX3_feel_133 2 rfl ?_
                  refine x_iadd C dX3_feel_134 ?_
                  refine x_top 10 (by decide) ?_
                  refine x_aload_n C dX3_feel_135 1 rfl ?_
                  refine x_get (v := .ref aP1) C hwsX20 1 mw_213 3 rfl rfl (by decide) rfl rfl dX3_feel_136 ?_
                  refine x_iload_n C dX3_feel_139 3 rfl ?_
                  refine x_iald C 5 0 rfl rfl 4 rfl (by omega) (by decide) (uP 1 4) rfl dX3_feel_140 ?_
                  refine x_aload_n C dX3_feel_141 1 rfl ?_
                  refine x_get (v := .ref aP0) C hwsX20 0 mw_214 3 rfl rfl (by decide) rfl rfl dX3_feel_142 ?_
                  refine x_iload_n C dX3_feel_145 3 rfl ?_
                  refine x_iald C 4 0 rfl rfl 4 rfl (by omega) (by decide) (uP 0 4) rfl dX3_feel_146 ?_
                  refine x_join (fun (b18 : Bool) => f_X3_feel_k155_2 uS uP b2 b4 b6 b8 b10 b12 b14 b16 b18) 155 (fun (b18 : Bool) => [(0, .ref hS), (1, .ref hP), (2, .int 1), (3, .int 4)]) (fun (b18 : Bool) => [.int (b2i b18), .int 10, .ref aS0]) (fun (b18 : Bool) => wX3 cI cZ cO hS aS0 aS1 (put (put (put (put (put (put (put (put (put (put uS 0 0 (uP 5 0)) 0 1 (f_X6_bit b2)) 0 2 (f_X6_bit b4)) 0 3 (f_X6_bit b6)) 0 6 (f_X6_bit b8)) 0 9 (f_X6_bit b10)) 0 12 (f_X6_bit b12)) 0 15 (f_X6_bit (f_X6_has (uP 9 0) 0))) 0 4 (f_X6_bit b14)) 0 7 (f_X6_bit b16)) ++ wX2 cI cZ cO hP aP0 aP1 aP2 aP3 aP4 uP) (fun b18 => ?_) _ (fun J34 => ?_)
                  · unfold f_X3_feel_k155_2
                    refine x_cNi (As := [.int (b2i b18)]) (ws' := wX3 cI cZ cO hS aS0 aS1 (put (put (put (put (put (put (put (put (put (put uS 0 0 (uP 5 0)) 0 1 (f_X6_bit b2)) 0 2 (f_X6_bit b4)) 0 3 (f_X6_bit b6)) 0 6 (f_X6_bit b8)) 0 9 (f_X6_bit b10)) 0 12 (f_X6_bit b12)) 0 15 (f_X6_bit (f_X6_has (uP 9 0) 0))) 0 4 (f_X6_bit b14)) 0 7 (f_X6_bit b16)) ++ wX2 cI cZ cO hP aP0 aP1 aP2 aP3 aP4 uP) C C.2.2.2.1.2.2.2.1 mw_72 mw_37 mw_66 hd_X6_bit rfl rfl ⟨Nat.le_of_ble_eq_true rfl, Nat.le_of_ble_eq_true rfl⟩ (c_X6_bit l D cI cZ cO  b18 ) [] [.inl 0, .inl 1, .inl 2, .inl 3, .inl 4, .inl 5, .inl 6, .inl 7, .inl 8] trivial rfl ⟨rfl, rfl, rfl, rfl, rfl, rfl, rfl, rfl, rfl, trivial⟩ rfl ⟨rfl, rfl, rfl, rfl, rfl, rfl, rfl, rfl, rfl, trivial⟩ rfl rfl (Nat.le_of_ble_eq_true rfl) (Nat.zero_le _) (Nat.zero_le _) dX3_feel_155 ?_
                    refine x_iast (ws' := wX3 cI cZ cO hS aS0 aS1 (put (put (put (put (put (put (put (put (put (put (put uS 0 0 (uP 5 0)) 0 1 (f_X6_bit b2)) 0 2 (f_X6_bit b4)) 0 3 (f_X6_bit b6)) 0 6 (f_X6_bit b8)) 0 9 (f_X6_bit b10)) 0 12 (f_X6_bit b12)) 0 15 (f_X6_bit (f_X6_has (uP 9 0) 0))) 0 4 (f_X6_bit b14)) 0 7 (f_X6_bit b16)) 0 10 (f_X6_bit b18)) ++ wX2 cI cZ cO hP aP0 aP1 aP2 aP3 aP4 uP) C 1 0 rfl rfl 10 rfl (by omega) (by decide) dX3_feel_158 rfl ?_
                    refine x_aload_n C dX3_feel_159 0 rfl ?_
                    refine x_get (v := .ref aS0) C hwsX30 0 mw_60 0 rfl rfl (by decide) rfl rfl dX3_feel_160 ?_
                    refine x_bipush C 12 dX3_feel_163 (by decide) ?_
                    refine x_iload_n C dX3_feel_165 2 rfl ?_
                    refine x_iadd C dX3_feel_166 ?_
                    refine x_top 13 (by decide) ?_
                    refine x_aload_n C dX3_feel_167 1 rfl ?_
                    refine x_get (v := .ref aP1) C hwsX20 1 mw_213 3 rfl rfl (by decide) rfl rfl dX3_feel_168 ?_
                    refine x_iload_n C dX3_feel_171 3 rfl ?_
                    refine x_iald C 5 0 rfl rfl 4 rfl (by omega) (by decide) (uP 1 4) rfl dX3_feel_172 ?_
                    refine x_join (fun (b20 : Bool) => f_X3_feel_k181_2 uS uP b2 b4 b6 b8 b10 b12 b14 b16 b18 b20) 181 (fun (b20 : Bool) => [(0, .ref hS), (1, .ref hP), (2, .int 1), (3, .int 4)]) (fun (b20 : Bool) => [.int (b2i b20), .int 13, .ref aS0]) (fun (b20 : Bool) => wX3 cI cZ cO hS aS0 aS1 (put (put (put (put (put (put (put (put (put (put (put uS 0 0 (uP 5 0)) 0 1 (f_X6_bit b2)) 0 2 (f_X6_bit b4)) 0 3 (f_X6_bit b6)) 0 6 (f_X6_bit b8)) 0 9 (f_X6_bit b10)) 0 12 (f_X6_bit b12)) 0 15 (f_X6_bit (f_X6_has (uP 9 0) 0))) 0 4 (f_X6_bit b14)) 0 7 (f_X6_bit b16)) 0 10 (f_X6_bit b18)) ++ wX2 cI cZ cO hP aP0 aP1 aP2 aP3 aP4 uP) (fun b20 => ?_) _ (fun J33 => ?_)
                    · unfold f_X3_feel_k181_2
                      refine x_cNi (As := [.int (b2i b20)]) (ws' := wX3 cI cZ cO hS aS0 aS1 (put (put (put (put (put (put (put (put (put (put (put uS 0 0 (uP 5 0)) 0 1 (f_X6_bit b2)) 0 2 (f_X6_bit b4)) 0 3 (f_X6_bit b6)) 0 6 (f_X6_bit b8)) 0 9 (f_X6_bit b10)) 0 12 (f_X6_bit b12)) 0 15 (f_X6_bit (f_X6_has (uP 9 0) 0))) 0 4 (f_X6_bit b14)) 0 7 (f_X6_bit b16)) 0 10 (f_X6_bit b18)) ++ wX2 cI cZ cO hP aP0 aP1 aP2 aP3 aP4 uP) C C.2.2.2.1.2.2.2.1 mw_72 mw_37 mw_66 hd_X6_bit rfl rfl ⟨Nat.le_of_ble_eq_true rfl, Nat.le_of_ble_eq_true rfl⟩ (c_X6_bit l D cI cZ cO  b20 ) [] [.inl 0, .inl 1, .inl 2, .inl 3, .inl 4, .inl 5, .inl 6, .inl 7, .inl 8] trivial rfl ⟨rfl, rfl, rfl, rfl, rfl, rfl, rfl, rfl, rfl, trivial⟩ rfl ⟨rfl, rfl, rfl, rfl, rfl, rfl, rfl, rfl, rfl, trivial⟩ rfl rfl (Nat.le_of_ble_eq_true rfl) (Nat.zero_le _) (Nat.zero_le _) dX3_feel_181 ?_
                      refine x_iast (ws' := wX3 cI cZ cO hS aS0 aS1 (put (put (put (put (put (put (put (put (put (put (put (put uS 0 0 (uP 5 0)) 0 1 (f_X6_bit b2)) 0 2 (f_X6_bit b4)) 0 3 (f_X6_bit b6)) 0 6 (f_X6_bit b8)) 0 9 (f_X6_bit b10)) 0 12 (f_X6_bit b12)) 0 15 (f_X6_bit (f_X6_has (uP 9 0) 0))) 0 4 (f_X6_bit b14)) 0 7 (f_X6_bit b16)) 0 10 (f_X6_bit b18)) 0 13 (f_X6_bit b20)) ++ wX2 cI cZ cO hP aP0 aP1 aP2 aP3 aP4 uP) C 1 0 rfl rfl 13 rfl (by omega) (by decide) dX3_feel_184 rfl ?_
                      refine x_aload_n C dX3_feel_185 0 rfl ?_
                      refine x_get (v := .ref aS0) C hwsX30 0 mw_60 0 rfl rfl (by decide) rfl rfl dX3_feel_186 ?_
                      refine x_bipush C 15 dX3_feel_189 (by decide) ?_
                      refine x_iload_n C dX3_feel_191 2 rfl ?_
                      refine x_iadd C dX3_feel_192 ?_
                      refine x_top 16 (by decide) ?_
                      refine x_aload_n C dX3_feel_193 1 rfl ?_
                      refine x_get (v := .int (uP 9 0)) C hwsX20 9 mw_215 3 rfl rfl (by decide) rfl rfl dX3_feel_194 ?_
                      refine x_iload_n C dX3_feel_197 2 rfl ?_
                      refine x_cNi (As := [.int (uP 9 0), .int 1]) (ws' := wX3 cI cZ cO hS aS0 aS1 (put (put (put (put (put (put (put (put (put (put (put (put uS 0 0 (uP 5 0)) 0 1 (f_X6_bit b2)) 0 2 (f_X6_bit b4)) 0 3 (f_X6_bit b6)) 0 6 (f_X6_bit b8)) 0 9 (f_X6_bit b10)) 0 12 (f_X6_bit b12)) 0 15 (f_X6_bit (f_X6_has (uP 9 0) 0))) 0 4 (f_X6_bit b14)) 0 7 (f_X6_bit b16)) 0 10 (f_X6_bit b18)) 0 13 (f_X6_bit b20)) ++ wX2 cI cZ cO hP aP0 aP1 aP2 aP3 aP4 uP) C C.2.2.2.1.2.2.2.2.1 mw_108 mw_37 mw_105 hd_X6_has rfl rfl ⟨Nat.le_of_ble_eq_true rfl, Nat.le_of_ble_eq_true rfl⟩ (c_X6_has l D cI cZ cO  (uP 9 0) 1 ) [] [.inl 0, .inl 1, .inl 2, .inl 3, .inl 4, .inl 5, .inl 6, .inl 7, .inl 8] trivial rfl ⟨rfl, rfl, rfl, rfl, rfl, rfl, rfl, rfl, rfl, trivial⟩ rfl ⟨rfl, rfl, rfl, rfl, rfl, rfl, rfl, rfl, rfl, trivial⟩ rfl rfl (Nat.le_of_ble_eq_true rfl) (Nat.zero_le _) (Nat.zero_le _) dX3_feel_198 ?_
                      refine x_cNi (As := [.int (b2i (f_X6_has (uP 9 0) 1))]) (ws' := wX3 cI cZ cO hS aS0 aS1 (put (put (put (put (put (put (put (put (put (put (put (put uS 0 0 (uP 5 0)) 0 1 (f_X6_bit b2)) 0 2 (f_X6_bit b4)) 0 3 (f_X6_bit b6)) 0 6 (f_X6_bit b8)) 0 9 (f_X6_bit b10)) 0 12 (f_X6_bit b12)) 0 15 (f_X6_bit (f_X6_has (uP 9 0) 0))) 0 4 (f_X6_bit b14)) 0 7 (f_X6_bit b16)) 0 10 (f_X6_bit b18)) 0 13 (f_X6_bit b20)) ++ wX2 cI cZ cO hP aP0 aP1 aP2 aP3 aP4 uP) C C.2.2.2.1.2.2.2.1 mw_72 mw_37 mw_66 hd_X6_bit rfl rfl ⟨Nat.le_of_ble_eq_true rfl, Nat.le_of_ble_eq_true rfl⟩ (c_X6_bit l D cI cZ cO  (f_X6_has (uP 9 0) 1) ) [] [.inl 0, .inl 1, .inl 2, .inl 3, .inl 4, .inl 5, .inl 6, .inl 7, .inl 8] trivial rfl ⟨rfl, rfl, rfl, rfl, rfl, rfl, rfl, rfl, rfl, trivial⟩ rfl ⟨rfl, rfl, rfl, rfl, rfl, rfl, rfl, rfl, rfl, trivial⟩ rfl rfl (Nat.le_of_ble_eq_true rfl) (Nat.zero_le _) (Nat.zero_le _) dX3_feel_201 ?_
                      refine x_iast (ws' := wX3 cI cZ cO hS aS0 aS1 (put (put (put (put (put (put (put (put (put (put (put (put (put uS 0 0 (uP 5 0)) 0 1 (f_X6_bit b2)) 0 2 (f_X6_bit b4)) 0 3 (f_X6_bit b6)) 0 6 (f_X6_bit b8)) 0 9 (f_X6_bit b10)) 0 12 (f_X6_bit b12)) 0 15 (f_X6_bit (f_X6_has (uP 9 0) 0))) 0 4 (f_X6_bit b14)) 0 7 (f_X6_bit b16)) 0 10 (f_X6_bit b18)) 0 13 (f_X6_bit b20)) 0 16 (f_X6_bit (f_X6_has (uP 9 0) 1))) ++ wX2 cI cZ cO hP aP0 aP1 aP2 aP3 aP4 uP) C 1 0 rfl rfl 16 rfl (by omega) (by decide) dX3_feel_204 rfl ?_
                      refine x_iinc (L' := [(2, .int 2), (0, .ref hS), (1, .ref hP), (3, .int 4)]) C 2 dX3_feel_205 2 rfl (by decide) (by decide) rfl ?_
                      refine x_goto C 61 dX3_feel_208 (by decide) ?_
                      refine x_iload_n C dX3_feel_61 0 rfl ?_
                      refine x_iconst C 3 dX3_feel_62 (by decide) ?_
                      refine x_icmp_ge_f C 211 dX3_feel_63 (by decide) (by decide) ?_
                      refine x_iconst C 3 dX3_feel_66 (by decide) ?_
                      refine x_iload_n C dX3_feel_67 0 rfl ?_
                      refine x_iadd C dX3_feel_68 ?_
                      refine x_top 5 (by decide) ?_
                      refine x_istore_n (L' := [(3, .int 5), (2, .int 2), (0, .ref hS), (1, .ref hP)]) C dX3_feel_69 (by decide) rfl ?_
                      refine x_aload_n C dX3_feel_70 2 rfl ?_
                      refine x_get (v := .ref aS0) C hwsX30 0 mw_60 0 rfl rfl (by decide) rfl rfl dX3_feel_71 ?_
                      refine x_iconst C 3 dX3_feel_74 (by decide) ?_
                      refine x_iload_n C dX3_feel_75 1 rfl ?_
                      refine x_iadd C dX3_feel_76 ?_
                      refine x_top 5 (by decide) ?_
                      refine x_aload_n C dX3_feel_77 3 rfl ?_
                      refine x_get (v := .ref aP1) C hwsX20 1 mw_213 3 rfl rfl (by decide) rfl rfl dX3_feel_78 ?_
                      refine x_iload_n C dX3_feel_81 1 rfl ?_
                      refine x_iald C 5 0 rfl rfl 2 rfl (by omega) (by decide) (uP 1 2) rfl dX3_feel_82 ?_
                      refine x_join (fun (b22 : Bool) => f_X3_feel_k91 uS uP b2 b4 b6 b8 b10 b12 b14 b16 b18 b20 b22) 91 (fun (b22 : Bool) => [(0, .ref hS), (1, .ref hP), (2, .int 2), (3, .int 5)]) (fun (b22 : Bool) => [.int (b2i b22), .int 5, .ref aS0]) (fun (b22 : Bool) => wX3 cI cZ cO hS aS0 aS1 (put (put (put (put (put (put (put (put (put (put (put (put (put uS 0 0 (uP 5 0)) 0 1 (f_X6_bit b2)) 0 2 (f_X6_bit b4)) 0 3 (f_X6_bit b6)) 0 6 (f_X6_bit b8)) 0 9 (f_X6_bit b10)) 0 12 (f_X6_bit b12)) 0 15 (f_X6_bit (f_X6_has (uP 9 0) 0))) 0 4 (f_X6_bit b14)) 0 7 (f_X6_bit b16)) 0 10 (f_X6_bit b18)) 0 13 (f_X6_bit b20)) 0 16 (f_X6_bit (f_X6_has (uP 9 0) 1))) ++ wX2 cI cZ cO hP aP0 aP1 aP2 aP3 aP4 uP) (fun b22 => ?_) _ (fun J32 => ?_)
                      · unfold f_X3_feel_k91
                        refine x_cNi (As := [.int (b2i b22)]) (ws' := wX3 cI cZ cO hS aS0 aS1 (put (put (put (put (put (put (put (put (put (put (put (put (put uS 0 0 (uP 5 0)) 0 1 (f_X6_bit b2)) 0 2 (f_X6_bit b4)) 0 3 (f_X6_bit b6)) 0 6 (f_X6_bit b8)) 0 9 (f_X6_bit b10)) 0 12 (f_X6_bit b12)) 0 15 (f_X6_bit (f_X6_has (uP 9 0) 0))) 0 4 (f_X6_bit b14)) 0 7 (f_X6_bit b16)) 0 10 (f_X6_bit b18)) 0 13 (f_X6_bit b20)) 0 16 (f_X6_bit (f_X6_has (uP 9 0) 1))) ++ wX2 cI cZ cO hP aP0 aP1 aP2 aP3 aP4 uP) C C.2.2.2.1.2.2.2.1 mw_72 mw_37 mw_66 hd_X6_bit rfl rfl ⟨Nat.le_of_ble_eq_true rfl, Nat.le_of_ble_eq_true rfl⟩ (c_X6_bit l D cI cZ cO  b22 ) [] [.inl 0, .inl 1, .inl 2, .inl 3, .inl 4, .inl 5, .inl 6, .inl 7, .inl 8] trivial rfl ⟨rfl, rfl, rfl, rfl, rfl, rfl, rfl, rfl, rfl, trivial⟩ rfl ⟨rfl, rfl, rfl, rfl, rfl, rfl, rfl, rfl, rfl, trivial⟩ rfl rfl (Nat.le_of_ble_eq_true rfl) (Nat.zero_le _) (Nat.zero_le _) dX3_feel_91 ?_
                        refine x_iast (ws' := wX3 cI cZ cO hS aS0 aS1 (put (put (put (put (put (put (put (put (put (put (put (put (put (put uS 0 0 (uP 5 0)) 0 1 (f_X6_bit b2)) 0 2 (f_X6_bit b4)) 0 3 (f_X6_bit b6)) 0 6 (f_X6_bit b8)) 0 9 (f_X6_bit b10)) 0 12 (f_X6_bit b12)) 0 15 (f_X6_bit (f_X6_has (uP 9 0) 0))) 0 4 (f_X6_bit b14)) 0 7 (f_X6_bit b16)) 0 10 (f_X6_bit b18)) 0 13 (f_X6_bit b20)) 0 16 (f_X6_bit (f_X6_has (uP 9 0) 1))) 0 5 (f_X6_bit b22)) ++ wX2 cI cZ cO hP aP0 aP1 aP2 aP3 aP4 uP) C 1 0 rfl rfl 5 rfl (by omega) (by decide) dX3_feel_94 rfl ?_
                        refine x_aload_n C dX3_feel_95 0 rfl ?_
                        refine x_get (v := .ref aS0) C hwsX30 0 mw_60 0 rfl rfl (by decide) rfl rfl dX3_feel_96 ?_
                        refine x_bipush C 6 dX3_feel_99 (by decide) ?_
                        refine x_iload_n C dX3_feel_101 2 rfl ?_
                        refine x_iadd C dX3_feel_102 ?_
                        refine x_top 8 (by decide) ?_
                        refine x_aload_n C dX3_feel_103 1 rfl ?_
                        refine x_get (v := .ref aP1) C hwsX20 1 mw_213 3 rfl rfl (by decide) rfl rfl dX3_feel_104 ?_
                        refine x_iload_n C dX3_feel_107 2 rfl ?_
                        refine x_iald C 5 0 rfl rfl 2 rfl (by omega) (by decide) (uP 1 2) rfl dX3_feel_108 ?_
                        refine x_aload_n C dX3_feel_109 1 rfl ?_
                        refine x_get (v := .ref aP0) C hwsX20 0 mw_214 3 rfl rfl (by decide) rfl rfl dX3_feel_110 ?_
                        refine x_iload_n C dX3_feel_113 2 rfl ?_
                        refine x_iald C 4 0 rfl rfl 2 rfl (by omega) (by decide) (uP 0 2) rfl dX3_feel_114 ?_
                        refine x_join (fun (b24 : Bool) => f_X3_feel_k123 uS uP b2 b4 b6 b8 b10 b12 b14 b16 b18 b20 b22 b24) 123 (fun (b24 : Bool) => [(0, .ref hS), (1, .ref hP), (2, .int 2), (3, .int 5)]) (fun (b24 : Bool) => [.int (b2i b24), .int 8, .ref aS0]) (fun (b24 : Bool) => wX3 cI cZ cO hS aS0 aS1 (put (put (put (put (put (put (put (put (put (put (put (put (put (put uS 0 0 (uP 5 0)) 0 1 (f_X6_bit b2)) 0 2 (f_X6_bit b4)) 0 3 (f_X6_bit b6)) 0 6 (f_X6_bit b8)) 0 9 (f_X6_bit b10)) 0 12 (f_X6_bit b12)) 0 15 (f_X6_bit (f_X6_has (uP 9 0) 0))) 0 4 (f_X6_bit b14)) 0 7 (f_X6_bit b16)) 0 10 (f_X6_bit b18)) 0 13 (f_X6_bit b20)) 0 16 (f_X6_bit (f_X6_has (uP 9 0) 1))) 0 5 (f_X6_bit b22)) ++ wX2 cI cZ cO hP aP0 aP1 aP2 aP3 aP4 uP) (fun b24 => ?_) _ (fun J31 => ?_)
                        · unfold f_X3_feel_k123
                          refine x_cNi (As := [.int (b2i b24)]) (ws' := wX3 cI cZ cO hS aS0 aS1 (put (put (put (put (put (put (put (put (put (put (put (put (put (put uS 0 0 (uP 5 0)) 0 1 (f_X6_bit b2)) 0 2 (f_X6_bit b4)) 0 3 (f_X6_bit b6)) 0 6 (f_X6_bit b8)) 0 9 (f_X6_bit b10)) 0 12 (f_X6_bit b12)) 0 15 (f_X6_bit (f_X6_has (uP 9 0) 0))) 0 4 (f_X6_bit b14)) 0 7 (f_X6_bit b16)) 0 10 (f_X6_bit b18)) 0 13 (f_X6_bit b20)) 0 16 (f_X6_bit (f_X6_has (uP 9 0) 1))) 0 5 (f_X6_bit b22)) ++ wX2 cI cZ cO hP aP0 aP1 aP2 aP3 aP4 uP) C C.2.2.2.1.2.2.2.1 mw_72 mw_37 mw_66 hd_X6_bit rfl rfl ⟨Nat.le_of_ble_eq_true rfl, Nat.le_of_ble_eq_true rfl⟩ (c_X6_bit l D cI cZ cO  b24 ) [] [.inl 0, .inl 1, .inl 2, .inl 3, .inl 4, .inl 5, .inl 6, .inl 7, .inl 8] trivial rfl ⟨rfl, rfl, rfl, rfl, rfl, rfl, rfl, rfl, rfl, trivial⟩ rfl ⟨rfl, rfl, rfl, rfl, rfl, rfl, rfl, rfl, rfl, trivial⟩ rfl rfl (Nat.le_of_ble_eq_true rfl) (Nat.zero_le _) (Nat.zero_le _) dX3_feel_123 ?_
                          refine x_iast (ws' := wX3 cI cZ cO hS aS0 aS1 (put (put (put (put (put (put (put (put (put (put (put (put (put (put (put uS 0 0 (uP 5 0)) 0 1 (f_X6_bit b2)) 0 2 (f_X6_bit b4)) 0 3 (f_X6_bit b6)) 0 6 (f_X6_bit b8)) 0 9 (f_X6_bit b10)) 0 12 (f_X6_bit b12)) 0 15 (f_X6_bit (f_X6_has (uP 9 0) 0))) 0 4 (f_X6_bit b14)) 0 7 (f_X6_bit b16)) 0 10 (f_X6_bit b18)) 0 13 (f_X6_bit b20)) 0 16 (f_X6_bit (f_X6_has (uP 9 0) 1))) 0 5 (f_X6_bit b22)) 0 8 (f_X6_bit b24)) ++ wX2 cI cZ cO hP aP0 aP1 aP2 aP3 aP4 uP) C 1 0 rfl rfl 8 rfl (by omega) (by decide) dX3_feel_126 rfl ?_
                          refine x_aload_n C dX3_feel_127 0 rfl ?_
                          refine x_get (v := .ref aS0) C hwsX30 0 mw_60 0 rfl rfl (by decide) rfl rfl dX3_feel_128 ?_
                          refine x_bipush C 9 dX3_feel_131 (by decide) ?_
                          refine x_iload_n C dX3_feel_133 2 rfl ?_
                          refine x_iadd C dX3_feel_134 ?_
                          refine x_top 11 (by decide) ?_
                          refine x_aload_n C dX3_feel_135 1 rfl ?_
                          refine x_get (v := .ref aP1) C hwsX20 1 mw_213 3 rfl rfl (by decide) rfl rfl dX3_feel_136 ?_
                          refine x_iload_n C dX3_feel_139 3 rfl ?_
                          refine x_iald C 5 0 rfl rfl 5 rfl (by omega) (by decide) (uP 1 5) rfl dX3_feel_140 ?_
                          refine x_aload_n C dX3_feel_141 1 rfl ?_
                          refine x_get (v := .ref aP0) C hwsX20 0 mw_214 3 rfl rfl (by decide) rfl rfl dX3_feel_142 ?_
                          refine x_iload_n C dX3_feel_145 3 rfl ?_
                          refine x_iald C 4 0 rfl rfl 5 rfl (by omega) (by decide) (uP 0 5) rfl dX3_feel_146 ?_
                          refine x_join (fun (b26 : Bool) => f_X3_feel_k155 uS uP b2 b4 b6 b8 b10 b12 b14 b16 b18 b20 b22 b24 b26) 155 (fun (b26 : Bool) => [(0, .ref hS), (1, .ref hP), (2, .int 2), (3, .int 5)]) (fun (b26 : Bool) => [.int (b2i b26), .int 11, .ref aS0]) (fun (b26 : Bool) => wX3 cI cZ cO hS aS0 aS1 (put (put (put (put (put (put (put (put (put (put (put (put (put (put (put uS 0 0 (uP 5 0)) 0 1 (f_X6_bit b2)) 0 2 (f_X6_bit b4)) 0 3 (f_X6_bit b6)) 0 6 (f_X6_bit b8)) 0 9 (f_X6_bit b10)) 0 12 (f_X6_bit b12)) 0 15 (f_X6_bit (f_X6_has (uP 9 0) 0))) 0 4 (f_X6_bit b14)) 0 7 (f_X6_bit b16)) 0 10 (f_X6_bit b18)) 0 13 (f_X6_bit b20)) 0 16 (f_X6_bit (f_X6_has (uP 9 0) 1))) 0 5 (f_X6_bit b22)) 0 8 (f_X6_bit b24)) ++ wX2 cI cZ cO hP aP0 aP1 aP2 aP3 aP4 uP) (fun b26 => ?_) _ (fun J30 => ?_)
                          · unfold f_X3_feel_k155
                            refine x_cNi (As := [.int (b2i b26)]) (ws' := wX3 cI cZ cO hS aS0 aS1 (put (put (put (put (put (put (put (put (put (put (put (put (put (put (put uS 0 0 (uP 5 0)) 0 1 (f_X6_bit b2)) 0 2 (f_X6_bit b4)) 0 3 (f_X6_bit b6)) 0 6 (f_X6_bit b8)) 0 9 (f_X6_bit b10)) 0 12 (f_X6_bit b12)) 0 15 (f_X6_bit (f_X6_has (uP 9 0) 0))) 0 4 (f_X6_bit b14)) 0 7 (f_X6_bit b16)) 0 10 (f_X6_bit b18)) 0 13 (f_X6_bit b20)) 0 16 (f_X6_bit (f_X6_has (uP 9 0) 1))) 0 5 (f_X6_bit b22)) 0 8 (f_X6_bit b24)) ++ wX2 cI cZ cO hP aP0 aP1 aP2 aP3 aP4 uP) C C.2.2.2.1.2.2.2.1 mw_72 mw_37 mw_66 hd_X6_bit rfl rfl ⟨Nat.le_of_ble_eq_true rfl, Nat.le_of_ble_eq_true rfl⟩ (c_X6_bit l D cI cZ cO  b26 ) [] [.inl 0, .inl 1, .inl 2, .inl 3, .inl 4, .inl 5, .inl 6, .inl 7, .inl 8] trivial rfl ⟨rfl, rfl, rfl, rfl, rfl, rfl, rfl, rfl, rfl, trivial⟩ rfl ⟨rfl, rfl, rfl, rfl, rfl, rfl, rfl, rfl, rfl, trivial⟩ rfl rfl (Nat.le_of_ble_eq_true rfl) (Nat.zero_le _) (Nat.zero_le _) dX3_feel_155 ?_
                            refine x_iast (ws' := wX3 cI cZ cO hS aS0 aS1 (put (put (put (put (put (put (put (put (put (put (put (put (put (put (put (put uS 0 0 (uP 5 0)) 0 1 (f_X6_bit b2)) 0 2 (f_X6_bit b4)) 0 3 (f_X6_bit b6)) 0 6 (f_X6_bit b8)) 0 9 (f_X6_bit b10)) 0 12 (f_X6_bit b12)) 0 15 (f_X6_bit (f_X6_has (uP 9 0) 0))) 0 4 (f_X6_bit b14)) 0 7 (f_X6_bit b16)) 0 10 (f_X6_bit b18)) 0 13 (f_X6_bit b20)) 0 16 (f_X6_bit (f_X6_has (uP 9 0) 1))) 0 5 (f_X6_bit b22)) 0 8 (f_X6_bit b24)) 0 11 (f_X6_bit b26)) ++ wX2 cI cZ cO hP aP0 aP1 aP2 aP3 aP4 uP) C 1 0 rfl rfl 11 rfl (by omega) (by decide) dX3_feel_158 rfl ?_
                            refine x_aload_n C dX3_feel_159 0 rfl ?_
                            refine x_get (v := .ref aS0) C hwsX30 0 mw_60 0 rfl rfl (by decide) rfl rfl dX3_feel_160 ?_
                            refine x_bipush C 12 dX3_feel_163 (by decide) ?_
                            refine x_iload_n C dX3_feel_165 2 rfl ?_
                            refine x_iadd C dX3_feel_166 ?_
                            refine x_top 14 (by decide) ?_
                            refine x_aload_n C dX3_feel_167 1 rfl ?_
                            refine x_get (v := .ref aP1) C hwsX20 1 mw_213 3 rfl rfl (by decide) rfl rfl dX3_feel_168 ?_
                            refine x_iload_n C dX3_feel_171 3 rfl ?_
                            refine x_iald C 5 0 rfl rfl 5 rfl (by omega) (by decide) (uP 1 5) rfl dX3_feel_172 ?_
                            refine x_join (fun (b28 : Bool) => f_X3_feel_k181 uS uP b2 b4 b6 b8 b10 b12 b14 b16 b18 b20 b22 b24 b26 b28) 181 (fun (b28 : Bool) => [(0, .ref hS), (1, .ref hP), (2, .int 2), (3, .int 5)]) (fun (b28 : Bool) => [.int (b2i b28), .int 14, .ref aS0]) (fun (b28 : Bool) => wX3 cI cZ cO hS aS0 aS1 (put (put (put (put (put (put (put (put (put (put (put (put (put (put (put (put uS 0 0 (uP 5 0)) 0 1 (f_X6_bit b2)) 0 2 (f_X6_bit b4)) 0 3 (f_X6_bit b6)) 0 6 (f_X6_bit b8)) 0 9 (f_X6_bit b10)) 0 12 (f_X6_bit b12)) 0 15 (f_X6_bit (f_X6_has (uP 9 0) 0))) 0 4 (f_X6_bit b14)) 0 7 (f_X6_bit b16)) 0 10 (f_X6_bit b18)) 0 13 (f_X6_bit b20)) 0 16 (f_X6_bit (f_X6_has (uP 9 0) 1))) 0 5 (f_X6_bit b22)) 0 8 (f_X6_bit b24)) 0 11 (f_X6_bit b26)) ++ wX2 cI cZ cO hP aP0 aP1 aP2 aP3 aP4 uP) (fun b28 => ?_) _ (fun J29 => ?_)
                            · unfold f_X3_feel_k181
                              refine x_cNi (As := [.int (b2i b28)]) (ws' := wX3 cI cZ cO hS aS0 aS1 (put (put (put (put (put (put (put (put (put (put (put (put (put (put (put (put uS 0 0 (uP 5 0)) 0 1 (f_X6_bit b2)) 0 2 (f_X6_bit b4)) 0 3 (f_X6_bit b6)) 0 6 (f_X6_bit b8)) 0 9 (f_X6_bit b10)) 0 12 (f_X6_bit b12)) 0 15 (f_X6_bit (f_X6_has (uP 9 0) 0))) 0 4 (f_X6_bit b14)) 0 7 (f_X6_bit b16)) 0 10 (f_X6_bit b18)) 0 13 (f_X6_bit b20)) 0 16 (f_X6_bit (f_X6_has (uP 9 0) 1))) 0 5 (f_X6_bit b22)) 0 8 (f_X6_bit b24)) 0 11 (f_X6_bit b26)) ++ wX2 cI cZ cO hP aP0 aP1 aP2 aP3 aP4 uP) C C.2.2.2.1.2.2.2.1 mw_72 mw_37 mw_66 hd_X6_bit rfl rfl ⟨Nat.le_of_ble_eq_true rfl, Nat.le_of_ble_eq_true rfl⟩ (c_X6_bit l D cI cZ cO  b28 ) [] [.inl 0, .inl 1, .inl 2, .inl 3, .inl 4, .inl 5, .inl 6, .inl 7, .inl 8] trivial rfl ⟨rfl, rfl, rfl, rfl, rfl, rfl, rfl, rfl, rfl, trivial⟩ rfl ⟨rfl, rfl, rfl, rfl, rfl, rfl, rfl, rfl, rfl, trivial⟩ rfl rfl (Nat.le_of_ble_eq_true rfl) (Nat.zero_le _) (Nat.zero_le _) dX3_feel_181 ?_
                              refine x_iast (ws' := wX3 cI cZ cO hS aS0 aS1 (put (put (put (put (put (put (put (put (put (put (put (put (put (put (put (put (put uS 0 0 (uP 5 0)) 0 1 (f_X6_bit b2)) 0 2 (f_X6_bit b4)) 0 3 (f_X6_bit b6)) 0 6 (f_X6_bit b8)) 0 9 (f_X6_bit b10)) 0 12 (f_X6_bit b12)) 0 15 (f_X6_bit (f_X6_has (uP 9 0) 0))) 0 4 (f_X6_bit b14)) 0 7 (f_X6_bit b16)) 0 10 (f_X6_bit b18)) 0 13 (f_X6_bit b20)) 0 16 (f_X6_bit (f_X6_has (uP 9 0) 1))) 0 5 (f_X6_bit b22)) 0 8 (f_X6_bit b24)) 0 11 (f_X6_bit b26)) 0 14 (f_X6_bit b28)) ++ wX2 cI cZ cO hP aP0 aP1 aP2 aP3 aP4 uP) C 1 0 rfl rfl 14 rfl (by omega) (by decide) dX3_feel_184 rfl ?_
                              refine x_aload_n C dX3_feel_185 0 rfl ?_
                              refine x_get (v := .ref aS0) C hwsX30 0 mw_60 0 rfl rfl (by decide) rfl rfl dX3_feel_186 ?_
                              refine x_bipush C 15 dX3_feel_189 (by decide) ?_
                              refine x_iload_n C dX3_feel_191 2 rfl ?_
                              refine x_iadd C dX3_feel_192 ?_
                              refine x_top 17 (by decide) ?_
                              refine x_aload_n C dX3_feel_193 1 rfl ?_
                              refine x_get (v := .int (uP 9 0)) C hwsX20 9 mw_215 3 rfl rfl (by decide) rfl rfl dX3_feel_194 ?_
                              refine x_iload_n C dX3_feel_197 2 rfl ?_
                              refine x_cNi (As := [.int (uP 9 0), .int 2]) (ws' := wX3 cI cZ cO hS aS0 aS1 (put (put (put (put (put (put (put (put (put (put (put (put (put (put (put (put (put uS 0 0 (uP 5 0)) 0 1 (f_X6_bit b2)) 0 2 (f_X6_bit b4)) 0 3 (f_X6_bit b6)) 0 6 (f_X6_bit b8)) 0 9 (f_X6_bit b10)) 0 12 (f_X6_bit b12)) 0 15 (f_X6_bit (f_X6_has (uP 9 0) 0))) 0 4 (f_X6_bit b14)) 0 7 (f_X6_bit b16)) 0 10 (f_X6_bit b18)) 0 13 (f_X6_bit b20)) 0 16 (f_X6_bit (f_X6_has (uP 9 0) 1))) 0 5 (f_X6_bit b22)) 0 8 (f_X6_bit b24)) 0 11 (f_X6_bit b26)) 0 14 (f_X6_bit b28)) ++ wX2 cI cZ cO hP aP0 aP1 aP2 aP3 aP4 uP) C C.2.2.2.1.2.2.2.2.1 mw_108 mw_37 mw_105 hd_X6_has rfl rfl ⟨Nat.le_of_ble_eq_true rfl, Nat.le_of_ble_eq_true rfl⟩ (c_X6_has l D cI cZ cO  (uP 9 0) 2 ) [] [.inl 0, .inl 1, .inl 2, .inl 3, .inl 4, .inl 5, .inl 6, .inl 7, .inl 8] trivial rfl ⟨rfl, rfl, rfl, rfl, rfl, rfl, rfl, rfl, rfl, trivial⟩ rfl ⟨rfl, rfl, rfl, rfl, rfl, rfl, rfl, rfl, rfl, trivial⟩ rfl rfl (Nat.le_of_ble_eq_true rfl) (Nat.zero_le _) (Nat.zero_le _) dX3_feel_198 ?_
                              refine x_cNi (As := [.int (b2i (f_X6_has (uP 9 0) 2))]) (ws' := wX3 cI cZ cO hS aS0 aS1 (put (put (put (put (put (put (put (put (put (put (put (put (put (put (put (put (put uS 0 0 (uP 5 0)) 0 1 (f_X6_bit b2)) 0 2 (f_X6_bit b4)) 0 3 (f_X6_bit b6)) 0 6 (f_X6_bit b8)) 0 9 (f_X6_bit b10)) 0 12 (f_X6_bit b12)) 0 15 (f_X6_bit (f_X6_has (uP 9 0) 0))) 0 4 (f_X6_bit b14)) 0 7 (f_X6_bit b16)) 0 10 (f_X6_bit b18)) 0 13 (f_X6_bit b20)) 0 16 (f_X6_bit (f_X6_has (uP 9 0) 1))) 0 5 (f_X6_bit b22)) 0 8 (f_X6_bit b24)) 0 11 (f_X6_bit b26)) 0 14 (f_X6_bit b28)) ++ wX2 cI cZ cO hP aP0 aP1 aP2 aP3 aP4 uP) C C.2.2.2.1.2.2.2.1 mw_72 mw_37 mw_66 hd_X6_bit rfl rfl ⟨Nat.le_of_ble_eq_true rfl, Nat.le_of_ble_eq_true rfl⟩ (c_X6_bit l D cI cZ cO  (f_X6_has (uP 9 0) 2) ) [] [.inl 0, .inl 1, .inl 2, .inl 3, .inl 4, .inl 5, .inl 6, .inl 7, .inl 8] trivial rfl ⟨rfl, rfl, rfl, rfl, rfl, rfl, rfl, rfl, rfl, trivial⟩ rfl ⟨rfl, rfl, rfl, rfl, rfl, rfl, rfl, rfl, rfl, trivial⟩ rfl rfl (Nat.le_of_ble_eq_true rfl) (Nat.zero_le _) (Nat.zero_le _) dX3_feel_201 ?_
                              refine x_iast (ws' := wX3 cI cZ cO hS aS0 aS1 (put (put (put (put (put (put (put (put (put (put (put (put (put (put (put (put (put (put uS 0 0 (uP 5 0)) 0 1 (f_X6_bit b2)) 0 2 (f_X6_bit b4)) 0 3 (f_X6_bit b6)) 0 6 (f_X6_bit b8)) 0 9 (f_X6_bit b10)) 0 12 (f_X6_bit b12)) 0 15 (f_X6_bit (f_X6_has (uP 9 0) 0))) 0 4 (f_X6_bit b14)) 0 7 (f_X6_bit b16)) 0 10 (f_X6_bit b18)) 0 13 (f_X6_bit b20)) 0 16 (f_X6_bit (f_X6_has (uP 9 0) 1))) 0 5 (f_X6_bit b22)) 0 8 (f_X6_bit b24)) 0 11 (f_X6_bit b26)) 0 14 (f_X6_bit b28)) 0 17 (f_X6_bit (f_X6_has (uP 9 0) 2))) ++ wX2 cI cZ cO hP aP0 aP1 aP2 aP3 aP4 uP) C 1 0 rfl rfl 17 rfl (by omega) (by decide) dX3_feel_204 rfl ?_
                              refine x_iinc (L' := [(2, .int 3), (0, .ref hS), (1, .ref hP), (3, .int 5)]) C 3 dX3_feel_205 2 rfl (by decide) (by decide) rfl ?_
                              refine x_goto C 61 dX3_feel_208 (by decide) ?_
                              refine x_iload_n C dX3_feel_61 0 rfl ?_
                              refine x_iconst C 3 dX3_feel_62 (by decide) ?_
                              refine x_icmp_ge_t C 211 dX3_feel_63 (by decide) (by decide) ?_
                              exact x_vret C rfl dX3_feel_211 rfl
                            · refine x_if_ne C 180 dX3_feel_173 (by decide) (fun c27 => ?_) (fun c27 => ?_)
                              · refine x_iconst C 1 dX3_feel_176 (by decide) ?_
                                refine x_goto C 181 dX3_feel_177 (by decide) ?_
                                exact J29 true
                              · refine x_iconst C 0 dX3_feel_180 (by decide) ?_
                                exact J29 false
                          · refine x_icmp_ne C 154 dX3_feel_147 (by decide) (fun c25 => ?_) (fun c25 => ?_)
                            · refine x_iconst C 1 dX3_feel_150 (by decide) ?_
                              refine x_goto C 155 dX3_feel_151 (by decide) ?_
                              exact J30 true
                            · refine x_iconst C 0 dX3_feel_154 (by decide) ?_
                              exact J30 false
                        · refine x_icmp_ne C 122 dX3_feel_115 (by decide) (fun c23 => ?_) (fun c23 => ?_)
                          · refine x_iconst C 1 dX3_feel_118 (by decide) ?_
                            refine x_goto C 123 dX3_feel_119 (by decide) ?_
                            exact J31 true
                          · refine x_iconst C 0 dX3_feel_122 (by decide) ?_
                            exact J31 false
                      · refine x_if_ne C 90 dX3_feel_83 (by decide) (fun c21 => ?_) (fun c21 => ?_)
                        · refine x_iconst C 1 dX3_feel_86 (by decide) ?_
                          refine x_goto C 91 dX3_feel_87 (by decide) ?_
                          refine x_lsub (L' := [(0, .ref hS), (1, .ref hP), (2, .int 2), (3, .int 5)]) [2, 3, 1, 0] rfl ?_
                          exact J32 true
                        · refine x_iconst C 0 dX3_feel_90 (by decide) ?_
                          refine x_lsub (L' := [(0, .ref hS), (1, .ref hP), (2, .int 2), (3, .int 5)]) [2, 3, 1, 0] rfl ?_
                          exact J32 false
                    · refine x_if_ne C 180 dX3_feel_173 (by decide) (fun c19 => ?_) (fun c19 => ?_)
                      · refine x_iconst C 1 dX3_feel_176 (by decide) ?_
                        refine x_goto C 181 dX3_feel_177 (by decide) ?_
                        exact J33 true
                      · refine x_iconst C 0 dX3_feel_180 (by decide) ?_
                        exact J33 false
                  · refine x_icmp_ne C 154 dX3_feel_147 (by decide) (fun c17 => ?_) (fun c17 => ?_)
                    · refine x_iconst C 1 dX3_feel_150 (by decide) ?_
                      refine x_goto C 155 dX3_feel_151 (by decide) ?_
                      exact J34 true
                    · refine x_iconst C 0 dX3_feel_154 (by decide) ?_
                      exact J34 false
                · refine x_icmp_ne C 122 dX3_feel_115 (by decide) (fun c15 => ?_) (fun c15 => ?_)
                  · refine x_iconst C 1 dX3_feel_118 (by decide) ?_
                    refine x_goto C 123 dX3_feel_119 (by decide) ?_
                    exact J35 true
                  · refine x_iconst C 0 dX3_feel_122 (by decide) ?_
                    exact J35 false
              · refine x_if_ne C 90 dX3_feel_83 (by decide) (fun c13 => ?_) (fun c13 => ?_)
                · refine x_iconst C 1 dX3_feel_86 (by decide) ?_
                  refine x_goto C 91 dX3_feel_87 (by decide) ?_
                  refine x_lsub (L' := [(0, .ref hS), (1, .ref hP), (2, .int 1), (3, .int 4)]) [2, 3, 1, 0] rfl ?_
                  exact J36 true
                · refine x_iconst C 0 dX3_feel_90 (by decide) ?_
                  refine x_lsub (L' := [(0, .ref hS), (1, .ref hP), (2, .int 1), (3, .int 4)]) [2, 3, 1, 0] rfl ?_
                  exact J36 false
            · refine x_if_ne C 180 dX3_feel_173 (by decide) (fun c11 => ?_) (fun c11 => ?_)
              · refine x_iconst C 1 dX3_feel_176 (by decide) ?_
                refine x_goto C 181 dX3_feel_177 (by decide) ?_
                exact J37 true
              · refine x_iconst C 0 dX3_feel_180 (by decide) ?_
                exact J37 false
          · refine x_icmp_ne C 154 dX3_feel_147 (by decide) (fun c9 => ?_) (fun c9 => ?_)
            · refine x_iconst C 1 dX3_feel_150 (by decide) ?_
              refine x_goto C 155 dX3_feel_151 (by decide) ?_
              exact J38 true
            · refine x_iconst C 0 dX3_feel_154 (by decide) ?_
              exact J38 false
        · refine x_icmp_ne C 122 dX3_feel_115 (by decide) (fun c7 => ?_) (fun c7 => ?_)
          · refine x_iconst C 1 dX3_feel_118 (by decide) ?_
            refine x_goto C 123 dX3_feel_119 (by decide) ?_
            exact J39 true
          · refine x_iconst C 0 dX3_feel_122 (by decide) ?_
            exact J39 false
      · refine x_if_ne C 90 dX3_feel_83 (by decide) (fun c5 => ?_) (fun c5 => ?_)
        · refine x_iconst C 1 dX3_feel_86 (by decide) ?_
          refine x_goto C 91 dX3_feel_87 (by decide) ?_
          refine x_lsub (L' := [(0, .ref hS), (1, .ref hP), (2, .int 0), (3, .int 3)]) [2, 3, 1, 0] rfl ?_
          exact J40 true
        · refine x_iconst C 0 dX3_feel_90 (by decide) ?_
          refine x_lsub (L' := [(0, .ref hS), (1, .ref hP), (2, .int 0), (3, .int 3)]) [2, 3, 1, 0] rfl ?_
          exact J40 false
    · refine x_icmp_ne C 54 dX3_feel_47 (by decide) (fun c3 => ?_) (fun c3 => ?_)
      · refine x_iconst C 1 dX3_feel_50 (by decide) ?_
        refine x_goto C 55 dX3_feel_51 (by decide) ?_
        exact J41 true
      · refine x_iconst C 0 dX3_feel_54 (by decide) ?_
        exact J41 false
  · refine x_icmp_ne C 28 dX3_feel_21 (by decide) (fun c1 => ?_) (fun c1 => ?_)
    · refine x_iconst C 1 dX3_feel_24 (by decide) ?_
      refine x_goto C 29 dX3_feel_25 (by decide) ?_
      exact J42 true
    · refine x_iconst C 0 dX3_feel_28 (by decide) ?_
      exact J42 false

def f_X3_told (uS : St) (xk : Nat) (xc : Nat) : Int32 := if (uS 1 ((xk * 3) + xc)) = 1 then 0 else (if (uS 1 ((xk * 3) + xc)) = 2 then 1 else (if (uS 1 ((xk * 3) + xc)) = 3 then (1 - (uS 0 xk)) else (uS 0 xk)))
theorem hd_X3_told : yX3_told.cls ≠ "java/lang/invoke/MethodHandle" ∧ yX3_told.cls ≠ "java/lang/invoke/VarHandle" ∧ (parseMethodDescriptor yX3_told.desc).map (fun d => d.parameters.length) = some 2 := by decide +kernel
set_option maxHeartbeats 4000000 in
set_option maxRecDepth 100000 in
theorem c_X3_told (l : Launch) (D : va_G) (cI cZ cO : ClassId) (hS aS0 aS1 : Nat) (uS : St) (xk : Nat) (xc : Nat) (hy0 : xk < 18) (hy1 : xc < 3) : CTi l D (T3 cI cZ cO) yX3_told (Cond.code yX3_told cX3_told 3 (some .int) :: WA) ({ frames := 0, cells := 0, slots := 0, locals := 0 } : Room) [.ref hS, .int (nI xk), .int (nI xc)] (wX3 cI cZ cO hS aS0 aS1 uS) ((f_X3_told uS xk xc)) (wX3 cI cZ cO hS aS0 aS1 uS) := by
  refine ct_i (K := fun z => z) (t := f_X3_told uS xk xc) (rf := fun o => o) (wf := fun o => wX3 cI cZ cO hS aS0 aS1 uS) (own := RX3) (nm := "told") (L0 := [(0, .ref hS), (1, .int (nI xk)), (2, .int (nI xc))]) (plainFor_of_name (by decide +kernel)) rfl rfl (Nat.le_of_ble_eq_true rfl) rfl ?_
  intro p e s m args below meth c A C
  unfold f_X3_told
  refine x_aload_n C dX3_told_0 0 rfl ?_
  refine x_get (v := .ref aS1) C hwsX30 1 mw_59 0 rfl rfl (by decide) rfl rfl dX3_told_1 ?_
  refine x_iload_n C dX3_told_4 1 rfl ?_
  refine x_iconst C 3 dX3_told_5 (by decide) ?_
  refine x_imul C dX3_told_6 ?_
  refine x_top (nI (xk * 3)) (pk_mul _ _) ?_
  refine x_iload_n C dX3_told_7 2 rfl ?_
  refine x_iadd C dX3_told_8 ?_
  refine x_top (nI ((xk * 3) + xc)) (nI_add _ _) ?_
  refine x_iald C 2 0 rfl rfl ((xk * 3) + xc) rfl (by omega) (by decide) (uS 1 ((xk * 3) + xc)) rfl dX3_told_9 ?_
  refine x_split (fun c1 => ?_) (fun c1 => ?_)
  · refine x_tsI C 1 36 dX3_told_10 (i_eq c1 (by decide : (1 : Int32).toInt = 1)) (by decide) (by decide) rfl (by decide) ?_
    refine x_iconst C 0 dX3_told_36 (by decide) ?_
    exact x_iret C rfl dX3_told_37 rfl rfl
  · refine x_split (fun c2 => ?_) (fun c2 => ?_)
    · refine x_tsI C 2 38 dX3_told_10 (i_eq c2 (by decide : (2 : Int32).toInt = 2)) (by decide) (by decide) rfl (by decide) ?_
      refine x_iconst C 1 dX3_told_38 (by decide) ?_
      exact x_iret C rfl dX3_told_39 rfl rfl
    · refine x_split (fun c3 => ?_) (fun c3 => ?_)
      · refine x_tsI C 3 40 dX3_told_10 (i_eq c3 (by decide : (3 : Int32).toInt = 3)) (by decide) (by decide) rfl (by decide) ?_
        refine x_iconst C 1 dX3_told_40 (by decide) ?_
        refine x_aload_n C dX3_told_41 0 rfl ?_
        refine x_get (v := .ref aS0) C hwsX30 0 mw_60 0 rfl rfl (by decide) rfl rfl dX3_told_42 ?_
        refine x_iload_n C dX3_told_45 1 rfl ?_
        refine x_iald C 1 0 rfl rfl xk rfl (by omega) (by decide) (uS 0 xk) rfl dX3_told_46 ?_
        refine x_isub C dX3_told_47 ?_
        exact x_iret C rfl dX3_told_48 rfl rfl
      · refine x_tsO C 49 dX3_told_10 (by have g0 := i_ne c1 (by decide : (1 : Int32).toInt = 1); have g1 := i_ne c2 (by decide : (2 : Int32).toInt = 2); have g2 := i_ne c3 (by decide : (3 : Int32).toInt = 3); omega) (by decide) ?_
        refine x_aload_n C dX3_told_49 0 rfl ?_
        refine x_get (v := .ref aS0) C hwsX30 0 mw_60 0 rfl rfl (by decide) rfl rfl dX3_told_50 ?_
        refine x_iload_n C dX3_told_53 1 rfl ?_
        refine x_iald C 1 0 rfl rfl xk rfl (by omega) (by decide) (uS 0 xk) rfl dX3_told_54 ?_
        exact x_iret C rfl dX3_told_55 rfl rfl

def f_X3_toldBits (uS : St) (xk : Nat) : Int32 := ((f_X3_told uS xk 0) ||| ((f_X3_told uS xk 1) <<< (1 &&& 31))) ||| ((f_X3_told uS xk 2) <<< (2 &&& 31))
theorem hd_X3_toldBits : yX3_toldBits.cls ≠ "java/lang/invoke/MethodHandle" ∧ yX3_toldBits.cls ≠ "java/lang/invoke/VarHandle" ∧ (parseMethodDescriptor yX3_toldBits.desc).map (fun d => d.parameters.length) = some 1 := by decide +kernel
set_option maxHeartbeats 4000000 in
set_option maxRecDepth 100000 in
theorem c_X3_toldBits (l : Launch) (D : va_G) (cI cZ cO : ClassId) (hS aS0 aS1 : Nat) (uS : St) (xk : Nat) (hy0 : xk < 18) : CTi l D (T3 cI cZ cO) yX3_toldBits (Cond.code yX3_toldBits cX3_toldBits 2 (some .int) :: WA) ({ frames := 1, cells := 0, slots := 0, locals := 22 } : Room) [.ref hS, .int (nI xk)] (wX3 cI cZ cO hS aS0 aS1 uS) ((f_X3_toldBits uS xk)) (wX3 cI cZ cO hS aS0 aS1 uS) := by
  refine ct_i (K := fun z => z) (t := f_X3_toldBits uS xk) (rf := fun o => o) (wf := fun o => wX3 cI cZ cO hS aS0 aS1 uS) (own := RX3) (nm := "toldBits") (L0 := [(0, .ref hS), (1, .int (nI xk))]) (plainFor_of_name (by decide +kernel)) rfl rfl (Nat.le_of_ble_eq_true rfl) rfl ?_
  intro p e s m args below meth c A C
  unfold f_X3_toldBits
  refine x_aload_n C dX3_toldBits_0 0 rfl ?_
  refine x_iload_n C dX3_toldBits_1 1 rfl ?_
  refine x_iconst C 0 dX3_toldBits_2 (by decide) ?_
  refine x_cViW (q0 := 0) (As := [.int (nI xk), .int 0]) C mw_62 mw_63 mw_64 mw_65 mw_58 hd_X3_told rfl rfl ⟨Nat.le_of_ble_eq_true rfl, Nat.le_of_ble_eq_true rfl⟩ rfl rfl rfl (c_X3_told l D cI cZ cO hS aS0 aS1 uS xk 0 (by omega) (by omega)) rfl rfl (Nat.le_of_ble_eq_true rfl) (Nat.zero_le _) (Nat.zero_le _) dX3_toldBits_3 ?_
  refine x_aload_n C dX3_toldBits_6 0 rfl ?_
  refine x_iload_n C dX3_toldBits_7 1 rfl ?_
  refine x_iconst C 1 dX3_toldBits_8 (by decide) ?_
  refine x_cViW (q0 := 0) (As := [.int (nI xk), .int 1]) C mw_62 mw_63 mw_64 mw_65 mw_58 hd_X3_told rfl rfl ⟨Nat.le_of_ble_eq_true rfl, Nat.le_of_ble_eq_true rfl⟩ rfl rfl rfl (c_X3_told l D cI cZ cO hS aS0 aS1 uS xk 1 (by omega) (by omega)) rfl rfl (Nat.le_of_ble_eq_true rfl) (Nat.zero_le _) (Nat.zero_le _) dX3_toldBits_9 ?_
  refine x_iconst C 1 dX3_toldBits_12 (by decide) ?_
  refine x_ishl C dX3_toldBits_13 ?_
  refine x_ior C dX3_toldBits_14 ?_
  refine x_aload_n C dX3_toldBits_15 0 rfl ?_
  refine x_iload_n C dX3_toldBits_16 1 rfl ?_
  refine x_iconst C 2 dX3_toldBits_17 (by decide) ?_
  refine x_cViW (q0 := 0) (As := [.int (nI xk), .int 2]) C mw_62 mw_63 mw_64 mw_65 mw_58 hd_X3_told rfl rfl ⟨Nat.le_of_ble_eq_true rfl, Nat.le_of_ble_eq_true rfl⟩ rfl rfl rfl (c_X3_told l D cI cZ cO hS aS0 aS1 uS xk 2 (by omega) (by omega)) rfl rfl (Nat.le_of_ble_eq_true rfl) (Nat.zero_le _) (Nat.zero_le _) dX3_toldBits_18 ?_
  refine x_iconst C 2 dX3_toldBits_21 (by decide) ?_
  refine x_ishl C dX3_toldBits_22 ?_
  refine x_ior C dX3_toldBits_23 ?_
  exact x_iret C rfl dX3_toldBits_24 rfl rfl

def f_X4_takeOne_k28 (uV : St) (xk : Nat) (b4 : Bool) : St := put uV 0 xk (f_X6_bit b4)
def f_X4_takeOne_l14 (uV : St) (xk : Nat) (xy : Int32) (b2 : Unit) : St := f_X4_takeOne_k28 uV xk (if xy = 0 then false else true)
def f_X4_takeOne_k91 (uV : St) (xk : Nat) (b10 : Bool) (b12 : Int32) : St := put (put uV 0 xk (f_X6_bit b10)) 1 xk b12
def f_X4_takeOne_k64 (uV : St) (xk : Nat) (xy : Int32) (b10 : Bool) : St := f_X4_takeOne_k91 uV xk b10 (if (f_X6_bit b10) = 1 then xy else (7 - xy))
def f_X4_takeOne (uV : St) (xk : Nat) (xy : Int32) : St := if xy = (uV 1 xk) then (f_X4_takeOne_l14 uV xk xy ()) else (if xy = 0 then (f_X4_takeOne_l14 uV xk xy ()) else (if (uV 1 xk) = 7 then (f_X4_takeOne_k64 uV xk xy (if (f_J6_bitCount_0f7a4 xy) = 2 then true else false)) else (put uV 1 xk 0)))
theorem hd_X4_takeOne : yX4_takeOne.cls ≠ "java/lang/invoke/MethodHandle" ∧ yX4_takeOne.cls ≠ "java/lang/invoke/VarHandle" ∧ (parseMethodDescriptor yX4_takeOne.desc).map (fun d => d.parameters.length) = some 2 := by decide +kernel
set_option maxHeartbeats 4000000 in
set_option maxRecDepth 100000 in
theorem c_X4_takeOne (l : Launch) (D : va_G) (cI cZ cO : ClassId) (hV aV0 aV1 : Nat) (uV : St) (xk : Nat) (xy : Int32) (hy0 : xk < 18) : CTv l D (T3 cI cZ cO) yX4_takeOne (Cond.code yX4_takeOne cX4_takeOne 3 none :: WA) ({ frames := 1, cells := 0, slots := 0, locals := 20 } : Room) [.ref hV, .int (nI xk), .int xy] (wX4 cI cZ cO hV aV0 aV1 uV) (wX4 cI cZ cO hV aV0 aV1 (f_X4_takeOne uV xk xy)) := by
  refine ct_v (K := fun z => z) (t := f_X4_takeOne uV xk xy) (wf := fun o => wX4 cI cZ cO hV aV0 aV1 o) (own := RX4) (nm := "takeOne") (L0 := [(0, .ref hV), (1, .int (nI xk)), (2, .int xy)]) (plainFor_of_name (by decide +kernel)) rfl rfl (Nat.le_of_ble_eq_true rfl) rfl ?_
  intro p e s m args below meth c A C
  unfold f_X4_takeOne
  refine x_iload_n C dX4_takeOne_0 2 rfl ?_
  refine x_aload_n C dX4_takeOne_1 0 rfl ?_
  refine x_get (v := .ref aV1) C hwsX40 1 mw_6 0 rfl rfl (by decide) rfl rfl dX4_takeOne_2 ?_
  refine x_iload_n C dX4_takeOne_5 1 rfl ?_
  refine x_iald C 2 0 rfl rfl xk rfl (by omega) (by decide) (uV 1 xk) rfl dX4_takeOne_6 ?_
  refine x_lab (fun (b2 : Unit) => f_X4_takeOne_l14 uV xk xy b2) 14 (fun (b2 : Unit) => [(0, .ref hV), (1, .int (nI xk)), (2, .int xy)]) (fun (b2 : Unit) => []) (fun (b2 : Unit) => wX4 cI cZ cO hV aV0 aV1 uV) (fun b2 => ?_) (fun J6 => ?_)
  · unfold f_X4_takeOne_l14
    refine x_aload_n C dX4_takeOne_14 0 rfl ?_
    refine x_get (v := .ref aV0) C hwsX40 0 mw_5 0 rfl rfl (by decide) rfl rfl dX4_takeOne_15 ?_
    refine x_iload_n C dX4_takeOne_18 1 rfl ?_
    refine x_iload_n C dX4_takeOne_19 2 rfl ?_
    refine x_join (fun (b4 : Bool) => f_X4_takeOne_k28 uV xk b4) 28 (fun (b4 : Bool) => [(0, .ref hV), (1, .int (nI xk)), (2, .int xy)]) (fun (b4 : Bool) => [.int (b2i b4), .int (nI xk), .ref aV0]) (fun (b4 : Bool) => wX4 cI cZ cO hV aV0 aV1 uV) (fun b4 => ?_) _ (fun J5 => ?_)
    · unfold f_X4_takeOne_k28
      refine x_cNi (As := [.int (b2i b4)]) (ws' := wX4 cI cZ cO hV aV0 aV1 uV) C C.2.2.2.1.2.2.2.2.2.1 mw_72 mw_37 mw_66 hd_X6_bit rfl rfl ⟨Nat.le_of_ble_eq_true rfl, Nat.le_of_ble_eq_true rfl⟩ (c_X6_bit l D cI cZ cO  b4 ) [] [.inl 0, .inl 1, .inl 2] trivial rfl ⟨rfl, rfl, rfl, trivial⟩ rfl ⟨rfl, rfl, rfl, trivial⟩ rfl rfl (Nat.le_of_ble_eq_true rfl) (Nat.zero_le _) (Nat.zero_le _) dX4_takeOne_28 ?_
      refine x_iast (ws' := wX4 cI cZ cO hV aV0 aV1 (put uV 0 xk (f_X6_bit b4))) C 1 0 rfl rfl xk rfl (by omega) (by decide) dX4_takeOne_31 rfl ?_
      refine x_goto C 102 dX4_takeOne_32 (by decide) ?_
      exact x_vret C rfl dX4_takeOne_102 rfl
    · refine x_if_eq C 27 dX4_takeOne_20 (by decide) (fun c3 => ?_) (fun c3 => ?_)
      · refine x_iconst C 0 dX4_takeOne_27 (by decide) ?_
        exact J5 false
      · refine x_iconst C 1 dX4_takeOne_23 (by decide) ?_
        refine x_goto C 28 dX4_takeOne_24 (by decide) ?_
        exact J5 true
  refine x_icmp_eq C 14 dX4_takeOne_7 (by decide) (fun c1 => ?_) (fun c1 => ?_)
  · exact J6 ()
  · refine x_iload_n C dX4_takeOne_10 2 rfl ?_
    refine x_if_ne C 35 dX4_takeOne_11 (by decide) (fun c7 => ?_) (fun c7 => ?_)
    · exact J6 ()
    · refine x_aload_n C dX4_takeOne_35 0 rfl ?_
      refine x_get (v := .ref aV1) C hwsX40 1 mw_6 0 rfl rfl (by decide) rfl rfl dX4_takeOne_36 ?_
      refine x_iload_n C dX4_takeOne_39 1 rfl ?_
      refine x_iald C 2 0 rfl rfl xk rfl (by omega) (by decide) (uV 1 xk) rfl dX4_takeOne_40 ?_
      refine x_bipush C 7 dX4_takeOne_41 (by decide) ?_
      refine x_icmp_ne C 95 dX4_takeOne_43 (by decide) (fun c8 => ?_) (fun c8 => ?_)
      · refine x_aload_n C dX4_takeOne_46 0 rfl ?_
        refine x_get (v := .ref aV0) C hwsX40 0 mw_5 0 rfl rfl (by decide) rfl rfl dX4_takeOne_47 ?_
        refine x_iload_n C dX4_takeOne_50 1 rfl ?_
        refine x_iload_n C dX4_takeOne_51 2 rfl ?_
        refine x_cSi (As := [.int xy]) (ws' := wX4 cI cZ cO hV aV0 aV1 uV) C mw_73 mw_74 mw_75 mw_67 hd_J6_bitCount_0f7a4 rfl rfl ⟨Nat.le_of_ble_eq_true rfl, Nat.le_of_ble_eq_true rfl⟩ (c_J6_bitCount_0f7a4 l D cI cZ cO  xy ) [] [.inl 0, .inl 1, .inl 2] trivial rfl ⟨rfl, rfl, rfl, trivial⟩ rfl ⟨rfl, rfl, rfl, trivial⟩ rfl rfl (Nat.le_of_ble_eq_true rfl) (Nat.zero_le _) (Nat.zero_le _) dX4_takeOne_52 ?_
        refine x_iconst C 2 dX4_takeOne_55 (by decide) ?_
        refine x_join (fun (b10 : Bool) => f_X4_takeOne_k64 uV xk xy b10) 64 (fun (b10 : Bool) => [(0, .ref hV), (1, .int (nI xk)), (2, .int xy)]) (fun (b10 : Bool) => [.int (b2i b10), .int (nI xk), .ref aV0]) (fun (b10 : Bool) => wX4 cI cZ cO hV aV0 aV1 uV) (fun b10 => ?_) _ (fun J14 => ?_)
        · unfold f_X4_takeOne_k64
          refine x_cNi (As := [.int (b2i b10)]) (ws' := wX4 cI cZ cO hV aV0 aV1 uV) C C.2.2.2.1.2.2.2.2.2.1 mw_72 mw_37 mw_66 hd_X6_bit rfl rfl ⟨Nat.le_of_ble_eq_true rfl, Nat.le_of_ble_eq_true rfl⟩ (c_X6_bit l D cI cZ cO  b10 ) [] [.inl 0, .inl 1, .inl 2] trivial rfl ⟨rfl, rfl, rfl, trivial⟩ rfl ⟨rfl, rfl, rfl, trivial⟩ rfl rfl (Nat.le_of_ble_eq_true rfl) (Nat.zero_le _) (Nat.zero_le _) dX4_takeOne_64 ?_
          refine x_iast (ws' := wX4 cI cZ cO hV aV0 aV1 (put uV 0 xk (f_X6_bit b10))) C 1 0 rfl rfl xk rfl (by omega) (by decide) dX4_takeOne_67 rfl ?_
          refine x_aload_n C dX4_takeOne_68 0 rfl ?_
          refine x_get (v := .ref aV1) C hwsX40 1 mw_6 0 rfl rfl (by decide) rfl rfl dX4_takeOne_69 ?_
          refine x_iload_n C dX4_takeOne_72 1 rfl ?_
          refine x_aload_n C dX4_takeOne_73 0 rfl ?_
          refine x_get (v := .ref aV0) C hwsX40 0 mw_5 0 rfl rfl (by decide) rfl rfl dX4_takeOne_74 ?_
          refine x_iload_n C dX4_takeOne_77 1 rfl ?_
          refine x_iald C 1 0 rfl rfl xk rfl (by omega) (by decide) (f_X6_bit b10) (by simp [put, upd]) dX4_takeOne_78 ?_
          refine x_iconst C 1 dX4_takeOne_79 (by decide) ?_
          refine x_join (fun (b12 : Int32) => f_X4_takeOne_k91 uV xk b10 b12) 91 (fun (b12 : Int32) => [(0, .ref hV), (1, .int (nI xk)), (2, .int xy)]) (fun (b12 : Int32) => [.int b12, .int (nI xk), .ref aV1]) (fun (b12 : Int32) => wX4 cI cZ cO hV aV0 aV1 (put uV 0 xk (f_X6_bit b10))) (fun b12 => ?_) _ (fun J13 => ?_)
          · unfold f_X4_takeOne_k91
            refine x_iast (ws' := wX4 cI cZ cO hV aV0 aV1 (put (put uV 0 xk (f_X6_bit b10)) 1 xk b12)) C 2 0 rfl rfl xk rfl (by omega) (by decide) dX4_takeOne_91 rfl ?_
            refine x_goto C 102 dX4_takeOne_92 (by decide) ?_
            exact x_vret C rfl dX4_takeOne_102 rfl
          · refine x_icmp_ne C 87 dX4_takeOne_80 (by decide) (fun c11 => ?_) (fun c11 => ?_)
            · refine x_iload_n C dX4_takeOne_83 2 rfl ?_
              refine x_goto C 91 dX4_takeOne_84 (by decide) ?_
              exact J13 xy
            · refine x_bipush C 7 dX4_takeOne_87 (by decide) ?_
              refine x_iload_n C dX4_takeOne_89 2 rfl ?_
              refine x_isub C dX4_takeOne_90 ?_
              exact J13 (7 - xy)
        · refine x_icmp_ne C 63 dX4_takeOne_56 (by decide) (fun c9 => ?_) (fun c9 => ?_)
          · refine x_iconst C 1 dX4_takeOne_59 (by decide) ?_
            refine x_goto C 64 dX4_takeOne_60 (by decide) ?_
            exact J14 true
          · refine x_iconst C 0 dX4_takeOne_63 (by decide) ?_
            exact J14 false
      · refine x_aload_n C dX4_takeOne_95 0 rfl ?_
        refine x_get (v := .ref aV1) C hwsX40 1 mw_6 0 rfl rfl (by decide) rfl rfl dX4_takeOne_96 ?_
        refine x_iload_n C dX4_takeOne_99 1 rfl ?_
        refine x_iconst C 0 dX4_takeOne_100 (by decide) ?_
        refine x_iast (ws' := wX4 cI cZ cO hV aV0 aV1 (put uV 1 xk 0)) C 2 0 rfl rfl xk rfl (by omega) (by decide) dX4_takeOne_101 rfl ?_
        exact x_vret C rfl dX4_takeOne_102 rfl

def f_X4_take_x2 (a2 : St) : St := a2
def f_X4_take_k34 (b7 : St) : St := b7
def f_X4_take_t2 (uS : St) (i1 : Nat) (a2 : St) : St := f_X4_take_k34 (if (a2 1 i1) = 0 then a2 else (f_X4_takeOne a2 i1 ((f_X3_toldBits uS i1) &&& (a2 1 i1))))
def f_X4_take (uV : St) (uS : St) : St := f_X4_take_x2 (up (f_X4_take_t2 uS) 0 18 uV)
theorem hd_X4_take : yX4_take.cls ≠ "java/lang/invoke/MethodHandle" ∧ yX4_take.cls ≠ "java/lang/invoke/VarHandle" ∧ (parseMethodDescriptor yX4_take.desc).map (fun d => d.parameters.length) = some 1 := by decide +kernel
set_option maxHeartbeats 4000000 in
set_option maxRecDepth 100000 in
theorem c_X4_take (l : Launch) (D : va_G) (cI cZ cO : ClassId) (hV aV0 aV1 hS aS0 aS1 : Nat) (uV : St) (uS : St)  : CTv l D (T3 cI cZ cO) yX4_take (Cond.code yX4_take cX4_take 3 none :: WA) ({ frames := 2, cells := 0, slots := 0, locals := 43 } : Room) [.ref hV, .ref hS] (wX4 cI cZ cO hV aV0 aV1 uV ++ wX3 cI cZ cO hS aS0 aS1 uS) (wX4 cI cZ cO hV aV0 aV1 (f_X4_take uV uS) ++ wX3 cI cZ cO hS aS0 aS1 uS) := by
  refine ct_v (K := fun z => z) (t := f_X4_take uV uS) (wf := fun o => wX4 cI cZ cO hV aV0 aV1 o ++ wX3 cI cZ cO hS aS0 aS1 uS) (own := RX4) (nm := "take") (L0 := [(0, .ref hV), (1, .ref hS)]) (plainFor_of_name (by decide +kernel)) rfl rfl (Nat.le_of_ble_eq_true rfl) rfl ?_
  intro p e s m args below meth c A C
  unfold f_X4_take
  refine x_iconst C 0 dX4_take_0 (by decide) ?_
  refine x_istore_n (L' := [(2, .int 0), (0, .ref hV), (1, .ref hS)]) C dX4_take_1 (by decide) rfl ?_
  refine x_lsub (L' := [(0, .ref hV), (1, .ref hS), (2, .int 0)]) [1, 2, 0] rfl ?_
  refine x_loop (f_X4_take_t2 uS) (fun (a2 : St) => f_X4_take_x2 a2) 18 2 (fun (i1 : Nat) (a2 : St) => [(0, .ref hV), (1, .ref hS), (2, .int (nI i1))]) (fun (i1 : Nat) (a2 : St) => []) (fun (i1 : Nat) (a2 : St) => wX4 cI cZ cO hV aV0 aV1 a2 ++ wX3 cI cZ cO hS aS0 aS1 uS) (fun a2 => ?_) (fun i1 a2 K5 hk3 ih4 => ?_) 18 0 uV (by omega)
  · unfold f_X4_take_x2
    refine x_iload_n C dX4_take_2 2 rfl ?_
    refine x_bipush C 18 dX4_take_3 (by decide) ?_
    refine x_icmp_ge_t C 40 dX4_take_5 (by decide) (by decide) ?_
    exact x_vret C rfl dX4_take_40 rfl
  · unfold f_X4_take_t2
    refine x_iload_n C dX4_take_2 2 rfl ?_
    refine x_bipush C 18 dX4_take_3 (by decide) ?_
    refine x_icmp_ge_f C 40 dX4_take_5 (by decide) (nI_lt (b := 18) hk3 (by omega)) ?_
    refine x_aload_n C dX4_take_8 0 rfl ?_
    refine x_get (v := .ref aV1) C hwsX40 1 mw_6 0 rfl rfl (by decide) rfl rfl dX4_take_9 ?_
    refine x_iload_n C dX4_take_12 2 rfl ?_
    refine x_iald C 2 0 rfl rfl i1 rfl (by omega) (by decide) (a2 1 i1) rfl dX4_take_13 ?_
    refine x_join (fun (b7 : St) => f_X4_take_k34 b7) 34 (fun (b7 : St) => [(0, .ref hV), (1, .ref hS), (2, .int (nI i1))]) (fun (b7 : St) => []) (fun (b7 : St) => wX4 cI cZ cO hV aV0 aV1 b7 ++ wX3 cI cZ cO hS aS0 aS1 uS) (fun b7 => ?_) _ (fun J8 => ?_)
    · unfold f_X4_take_k34
      refine x_iinc (L' := [(2, .int (nI (i1 + 1))), (0, .ref hV), (1, .ref hS)]) C (nI (i1 + 1)) dX4_take_34 2 rfl (nI_add _ _) (by decide) rfl ?_
      refine x_goto C 2 dX4_take_37 (by decide) ?_
      refine x_lsub (L' := [(0, .ref hV), (1, .ref hS), (2, .int (nI (i1 + 1)))]) [1, 2, 0] rfl ?_
      exact ih4 b7
    · refine x_if_eq C 34 dX4_take_14 (by decide) (fun c6 => ?_) (fun c6 => ?_)
      · exact J8 a2
      · refine x_aload_n C dX4_take_17 0 rfl ?_
        refine x_iload_n C dX4_take_18 2 rfl ?_
        refine x_aload_n C dX4_take_19 1 rfl ?_
        refine x_iload_n C dX4_take_20 2 rfl ?_
        refine x_cVi (q0 := 3) (As := [.int (nI i1)]) (ws' := wX4 cI cZ cO hV aV0 aV1 a2 ++ wX3 cI cZ cO hS aS0 aS1 uS) C mw_76 mw_77 mw_78 mw_65 mw_61 hd_X3_toldBits rfl rfl ⟨Nat.le_of_ble_eq_true rfl, Nat.le_of_ble_eq_true rfl⟩ rfl rfl rfl (c_X3_toldBits l D cI cZ cO hS aS0 aS1 uS i1 (by omega)) [3, 4, 5] [.inl 0, .inl 1, .inl 2, .inr 0, .inr 1, .inr 2] ⟨rfl, rfl, rfl, trivial⟩ rfl ⟨rfl, rfl, rfl, rfl, rfl, rfl, trivial⟩ rfl ⟨rfl, rfl, rfl, rfl, rfl, rfl, trivial⟩ rfl rfl (Nat.le_of_ble_eq_true rfl) (Nat.zero_le _) (Nat.zero_le _) dX4_take_21 ?_
        refine x_aload_n C dX4_take_24 0 rfl ?_
        refine x_get (v := .ref aV1) C hwsX40 1 mw_6 0 rfl rfl (by decide) rfl rfl dX4_take_25 ?_
        refine x_iload_n C dX4_take_28 2 rfl ?_
        refine x_iald C 2 0 rfl rfl i1 rfl (by omega) (by decide) (a2 1 i1) rfl dX4_take_29 ?_
        refine x_iand C dX4_take_30 ?_
        refine x_cVv (q0 := 0) (As := [.int (nI i1), .int ((f_X3_toldBits uS i1) &&& (a2 1 i1))]) (ws' := wX4 cI cZ cO hV aV0 aV1 (f_X4_takeOne a2 i1 ((f_X3_toldBits uS i1) &&& (a2 1 i1))) ++ wX3 cI cZ cO hS aS0 aS1 uS) C mw_79 mw_80 mw_81 mw_17 mw_71 hd_X4_takeOne rfl rfl ⟨Nat.le_of_ble_eq_true rfl, Nat.le_of_ble_eq_true rfl⟩ rfl rfl rfl (c_X4_takeOne l D cI cZ cO hV aV0 aV1 a2 i1 ((f_X3_toldBits uS i1) &&& (a2 1 i1)) (by omega)) [0, 1, 2] [.inr 0, .inr 1, .inr 2, .inl 3, .inl 4, .inl 5] ⟨rfl, rfl, rfl, trivial⟩ rfl ⟨rfl, rfl, rfl, rfl, rfl, rfl, trivial⟩ rfl ⟨rfl, rfl, rfl, rfl, rfl, rfl, trivial⟩ rfl rfl (Nat.le_of_ble_eq_true rfl) (Nat.zero_le _) (Nat.zero_le _) dX4_take_31 ?_
        exact J8 (f_X4_takeOne a2 i1 ((f_X3_toldBits uS i1) &&& (a2 1 i1)))

def f_X4_isSeen (uV : St) (xk : Nat) : Bool := if (uV 0 xk) = 1 then true else false
theorem hd_X4_isSeen : yX4_isSeen.cls ≠ "java/lang/invoke/MethodHandle" ∧ yX4_isSeen.cls ≠ "java/lang/invoke/VarHandle" ∧ (parseMethodDescriptor yX4_isSeen.desc).map (fun d => d.parameters.length) = some 1 := by decide +kernel
set_option maxHeartbeats 4000000 in
set_option maxRecDepth 100000 in
theorem c_X4_isSeen (l : Launch) (D : va_G) (cI cZ cO : ClassId) (hV aV0 aV1 : Nat) (uV : St) (xk : Nat) (hy0 : xk < 18) : CTi l D (T3 cI cZ cO) yX4_isSeen (Cond.code yX4_isSeen cX4_isSeen 2 (some .boolean) :: WA) ({ frames := 0, cells := 0, slots := 0, locals := 0 } : Room) [.ref hV, .int (nI xk)] (wX4 cI cZ cO hV aV0 aV1 uV) (b2i (f_X4_isSeen uV xk)) (wX4 cI cZ cO hV aV0 aV1 uV) := by
  refine ct_i (K := fun z => z) (t := f_X4_isSeen uV xk) (rf := fun o => b2i o) (wf := fun o => wX4 cI cZ cO hV aV0 aV1 uV) (own := RX4) (nm := "isSeen") (L0 := [(0, .ref hV), (1, .int (nI xk))]) (plainFor_of_name (by decide +kernel)) rfl rfl (Nat.le_of_ble_eq_true rfl) rfl ?_
  intro p e s m args below meth c A C
  unfold f_X4_isSeen
  refine x_aload_n C dX4_isSeen_0 0 rfl ?_
  refine x_get (v := .ref aV0) C hwsX40 0 mw_5 0 rfl rfl (by decide) rfl rfl dX4_isSeen_1 ?_
  refine x_iload_n C dX4_isSeen_4 1 rfl ?_
  refine x_iald C 1 0 rfl rfl xk rfl (by omega) (by decide) (uV 0 xk) rfl dX4_isSeen_5 ?_
  refine x_iconst C 1 dX4_isSeen_6 (by decide) ?_
  refine x_icmp_ne C 14 dX4_isSeen_7 (by decide) (fun c1 => ?_) (fun c1 => ?_)
  · refine x_iconst C 1 dX4_isSeen_10 (by decide) ?_
    refine x_goto C 15 dX4_isSeen_11 (by decide) ?_
    exact x_zret C rfl (by decide) dX4_isSeen_15 rfl rfl
  · refine x_iconst C 0 dX4_isSeen_14 (by decide) ?_
    exact x_zret C rfl (by decide) dX4_isSeen_15 rfl rfl

def f_X4_allSeen (uV : St) (xf : Nat) : Bool := if (uV 0 xf) = 1 then (if (uV 0 (xf + 1)) = 1 then (if (uV 0 (xf + 2)) = 1 then true else false) else false) else false
theorem hd_X4_allSeen : yX4_allSeen.cls ≠ "java/lang/invoke/MethodHandle" ∧ yX4_allSeen.cls ≠ "java/lang/invoke/VarHandle" ∧ (parseMethodDescriptor yX4_allSeen.desc).map (fun d => d.parameters.length) = some 1 := by decide +kernel
set_option maxHeartbeats 4000000 in
set_option maxRecDepth 100000 in
theorem c_X4_allSeen (l : Launch) (D : va_G) (cI cZ cO : ClassId) (hV aV0 aV1 : Nat) (uV : St) (xf : Nat) (hy0 : xf + 2 < 18) : CTi l D (T3 cI cZ cO) yX4_allSeen (Cond.code yX4_allSeen cX4_allSeen 2 (some .boolean) :: WA) ({ frames := 0, cells := 0, slots := 0, locals := 0 } : Room) [.ref hV, .int (nI xf)] (wX4 cI cZ cO hV aV0 aV1 uV) (b2i (f_X4_allSeen uV xf)) (wX4 cI cZ cO hV aV0 aV1 uV) := by
  refine ct_i (K := fun z => z) (t := f_X4_allSeen uV xf) (rf := fun o => b2i o) (wf := fun o => wX4 cI cZ cO hV aV0 aV1 uV) (own := RX4) (nm := "allSeen") (L0 := [(0, .ref hV), (1, .int (nI xf))]) (plainFor_of_name (by decide +kernel)) rfl rfl (Nat.le_of_ble_eq_true rfl) rfl ?_
  intro p e s m args below meth c A C
  unfold f_X4_allSeen
  refine x_aload_n C dX4_allSeen_0 0 rfl ?_
  refine x_get (v := .ref aV0) C hwsX40 0 mw_5 0 rfl rfl (by decide) rfl rfl dX4_allSeen_1 ?_
  refine x_iload_n C dX4_allSeen_4 1 rfl ?_
  refine x_iald C 1 0 rfl rfl xf rfl (by omega) (by decide) (uV 0 xf) rfl dX4_allSeen_5 ?_
  refine x_iconst C 1 dX4_allSeen_6 (by decide) ?_
  refine x_icmp_ne C 38 dX4_allSeen_7 (by decide) (fun c1 => ?_) (fun c1 => ?_)
  · refine x_aload_n C dX4_allSeen_10 0 rfl ?_
    refine x_get (v := .ref aV0) C hwsX40 0 mw_5 0 rfl rfl (by decide) rfl rfl dX4_allSeen_11 ?_
    refine x_iload_n C dX4_allSeen_14 1 rfl ?_
    refine x_iconst C 1 dX4_allSeen_15 (by decide) ?_
    refine x_iadd C dX4_allSeen_16 ?_
    refine x_top (nI (xf + 1)) (nI_add _ _) ?_
    refine x_iald C 1 0 rfl rfl (xf + 1) rfl (by omega) (by decide) (uV 0 (xf + 1)) rfl dX4_allSeen_17 ?_
    refine x_iconst C 1 dX4_allSeen_18 (by decide) ?_
    refine x_icmp_ne C 38 dX4_allSeen_19 (by decide) (fun c2 => ?_) (fun c2 => ?_)
    · refine x_aload_n C dX4_allSeen_22 0 rfl ?_
      refine x_get (v := .ref aV0) C hwsX40 0 mw_5 0 rfl rfl (by decide) rfl rfl dX4_allSeen_23 ?_
      refine x_iload_n C dX4_allSeen_26 1 rfl ?_
      refine x_iconst C 2 dX4_allSeen_27 (by decide) ?_
      refine x_iadd C dX4_allSeen_28 ?_
      refine x_top (nI (xf + 2)) (nI_add _ _) ?_
      refine x_iald C 1 0 rfl rfl (xf + 2) rfl (by omega) (by decide) (uV 0 (xf + 2)) rfl dX4_allSeen_29 ?_
      refine x_iconst C 1 dX4_allSeen_30 (by decide) ?_
      refine x_icmp_ne C 38 dX4_allSeen_31 (by decide) (fun c3 => ?_) (fun c3 => ?_)
      · refine x_iconst C 1 dX4_allSeen_34 (by decide) ?_
        refine x_goto C 39 dX4_allSeen_35 (by decide) ?_
        exact x_zret C rfl (by decide) dX4_allSeen_39 rfl rfl
      · refine x_iconst C 0 dX4_allSeen_38 (by decide) ?_
        exact x_zret C rfl (by decide) dX4_allSeen_39 rfl rfl
    · refine x_iconst C 0 dX4_allSeen_38 (by decide) ?_
      exact x_zret C rfl (by decide) dX4_allSeen_39 rfl rfl
  · refine x_iconst C 0 dX4_allSeen_38 (by decide) ?_
    exact x_zret C rfl (by decide) dX4_allSeen_39 rfl rfl

def f_X4_someSeen (uV : St) (xf : Nat) : Bool := if (uV 0 xf) = 1 then true else (if (uV 0 (xf + 1)) = 1 then true else (if (uV 0 (xf + 2)) = 1 then true else false))
theorem hd_X4_someSeen : yX4_someSeen.cls ≠ "java/lang/invoke/MethodHandle" ∧ yX4_someSeen.cls ≠ "java/lang/invoke/VarHandle" ∧ (parseMethodDescriptor yX4_someSeen.desc).map (fun d => d.parameters.length) = some 1 := by decide +kernel
set_option maxHeartbeats 4000000 in
set_option maxRecDepth 100000 in
theorem c_X4_someSeen (l : Launch) (D : va_G) (cI cZ cO : ClassId) (hV aV0 aV1 : Nat) (uV : St) (xf : Nat) (hy0 : xf + 2 < 18) : CTi l D (T3 cI cZ cO) yX4_someSeen (Cond.code yX4_someSeen cX4_someSeen 2 (some .boolean) :: WA) ({ frames := 0, cells := 0, slots := 0, locals := 0 } : Room) [.ref hV, .int (nI xf)] (wX4 cI cZ cO hV aV0 aV1 uV) (b2i (f_X4_someSeen uV xf)) (wX4 cI cZ cO hV aV0 aV1 uV) := by
  refine ct_i (K := fun z => z) (t := f_X4_someSeen uV xf) (rf := fun o => b2i o) (wf := fun o => wX4 cI cZ cO hV aV0 aV1 uV) (own := RX4) (nm := "someSeen") (L0 := [(0, .ref hV), (1, .int (nI xf))]) (plainFor_of_name (by decide +kernel)) rfl rfl (Nat.le_of_ble_eq_true rfl) rfl ?_
  intro p e s m args below meth c A C
  unfold f_X4_someSeen
  refine x_aload_n C dX4_someSeen_0 0 rfl ?_
  refine x_get (v := .ref aV0) C hwsX40 0 mw_5 0 rfl rfl (by decide) rfl rfl dX4_someSeen_1 ?_
  refine x_iload_n C dX4_someSeen_4 1 rfl ?_
  refine x_iald C 1 0 rfl rfl xf rfl (by omega) (by decide) (uV 0 xf) rfl dX4_someSeen_5 ?_
  refine x_iconst C 1 dX4_someSeen_6 (by decide) ?_
  refine x_icmp_eq C 34 dX4_someSeen_7 (by decide) (fun c1 => ?_) (fun c1 => ?_)
  · refine x_iconst C 1 dX4_someSeen_34 (by decide) ?_
    refine x_goto C 39 dX4_someSeen_35 (by decide) ?_
    exact x_zret C rfl (by decide) dX4_someSeen_39 rfl rfl
  · refine x_aload_n C dX4_someSeen_10 0 rfl ?_
    refine x_get (v := .ref aV0) C hwsX40 0 mw_5 0 rfl rfl (by decide) rfl rfl dX4_someSeen_11 ?_
    refine x_iload_n C dX4_someSeen_14 1 rfl ?_
    refine x_iconst C 1 dX4_someSeen_15 (by decide) ?_
    refine x_iadd C dX4_someSeen_16 ?_
    refine x_top (nI (xf + 1)) (nI_add _ _) ?_
    refine x_iald C 1 0 rfl rfl (xf + 1) rfl (by omega) (by decide) (uV 0 (xf + 1)) rfl dX4_someSeen_17 ?_
    refine x_iconst C 1 dX4_someSeen_18 (by decide) ?_
    refine x_icmp_eq C 34 dX4_someSeen_19 (by decide) (fun c2 => ?_) (fun c2 => ?_)
    · refine x_iconst C 1 dX4_someSeen_34 (by decide) ?_
      refine x_goto C 39 dX4_someSeen_35 (by decide) ?_
      exact x_zret C rfl (by decide) dX4_someSeen_39 rfl rfl
    · refine x_aload_n C dX4_someSeen_22 0 rfl ?_
      refine x_get (v := .ref aV0) C hwsX40 0 mw_5 0 rfl rfl (by decide) rfl rfl dX4_someSeen_23 ?_
      refine x_iload_n C dX4_someSeen_26 1 rfl ?_
      refine x_iconst C 2 dX4_someSeen_27 (by decide) ?_
      refine x_iadd C dX4_someSeen_28 ?_
      refine x_top (nI (xf + 2)) (nI_add _ _) ?_
      refine x_iald C 1 0 rfl rfl (xf + 2) rfl (by omega) (by decide) (uV 0 (xf + 2)) rfl dX4_someSeen_29 ?_
      refine x_iconst C 1 dX4_someSeen_30 (by decide) ?_
      refine x_icmp_ne C 38 dX4_someSeen_31 (by decide) (fun c3 => ?_) (fun c3 => ?_)
      · refine x_iconst C 1 dX4_someSeen_34 (by decide) ?_
        refine x_goto C 39 dX4_someSeen_35 (by decide) ?_
        exact x_zret C rfl (by decide) dX4_someSeen_39 rfl rfl
      · refine x_iconst C 0 dX4_someSeen_38 (by decide) ?_
        exact x_zret C rfl (by decide) dX4_someSeen_39 rfl rfl

def f_X4_someInvalid_x2 (a2 : Unit) : Bool := false
def f_X4_someInvalid_t2 (uV : St) (i1 : Nat) (a2 : Unit) (g5 : (Unit) → Bool) : Bool := if (uV 1 i1) = 0 then true else (g5 ())
def f_X4_someInvalid (uV : St) : Bool := upr (f_X4_someInvalid_t2 uV) (fun (a2 : Unit) => f_X4_someInvalid_x2 a2) 0 18 ()
theorem hd_X4_someInvalid : yX4_someInvalid.cls ≠ "java/lang/invoke/MethodHandle" ∧ yX4_someInvalid.cls ≠ "java/lang/invoke/VarHandle" ∧ (parseMethodDescriptor yX4_someInvalid.desc).map (fun d => d.parameters.length) = some 0 := by decide +kernel
set_option maxHeartbeats 4000000 in
set_option maxRecDepth 100000 in
theorem c_X4_someInvalid (l : Launch) (D : va_G) (cI cZ cO : ClassId) (hV aV0 aV1 : Nat) (uV : St)  : CTi l D (T3 cI cZ cO) yX4_someInvalid (Cond.code yX4_someInvalid cX4_someInvalid 2 (some .boolean) :: WA) ({ frames := 0, cells := 0, slots := 0, locals := 0 } : Room) [.ref hV] (wX4 cI cZ cO hV aV0 aV1 uV) (b2i (f_X4_someInvalid uV)) (wX4 cI cZ cO hV aV0 aV1 uV) := by
  refine ct_i (K := fun z => z) (t := f_X4_someInvalid uV) (rf := fun o => b2i o) (wf := fun o => wX4 cI cZ cO hV aV0 aV1 uV) (own := RX4) (nm := "someInvalid") (L0 := [(0, .ref hV)]) (plainFor_of_name (by decide +kernel)) rfl rfl (Nat.le_of_ble_eq_true rfl) rfl ?_
  intro p e s m args below meth c A C
  unfold f_X4_someInvalid
  refine x_iconst C 0 dX4_someInvalid_0 (by decide) ?_
  refine x_istore_n (L' := [(1, .int 0), (0, .ref hV)]) C dX4_someInvalid_1 (by decide) rfl ?_
  refine x_lsub (L' := [(0, .ref hV), (1, .int 0)]) [1, 0] rfl ?_
  refine x_loopR (f_X4_someInvalid_t2 uV) (fun (a2 : Unit) => f_X4_someInvalid_x2 a2) 18 2 (fun (i1 : Nat) (a2 : Unit) => [(0, .ref hV), (1, .int (nI i1))]) (fun (i1 : Nat) (a2 : Unit) => []) (fun (i1 : Nat) (a2 : Unit) => wX4 cI cZ cO hV aV0 aV1 uV) (fun a2 => ?_) (fun i1 a2 g5 hk3 ih4 => ?_) 18 0 () (by omega)
  · unfold f_X4_someInvalid_x2
    refine x_iload_n C dX4_someInvalid_2 1 rfl ?_
    refine x_bipush C 18 dX4_someInvalid_3 (by decide) ?_
    refine x_icmp_ge_t C 25 dX4_someInvalid_5 (by decide) (by decide) ?_
    refine x_iconst C 0 dX4_someInvalid_25 (by decide) ?_
    exact x_zret C rfl (by decide) dX4_someInvalid_26 rfl rfl
  · unfold f_X4_someInvalid_t2
    refine x_iload_n C dX4_someInvalid_2 1 rfl ?_
    refine x_bipush C 18 dX4_someInvalid_3 (by decide) ?_
    refine x_icmp_ge_f C 25 dX4_someInvalid_5 (by decide) (nI_lt (b := 18) hk3 (by omega)) ?_
    refine x_aload_n C dX4_someInvalid_8 0 rfl ?_
    refine x_get (v := .ref aV1) C hwsX40 1 mw_6 0 rfl rfl (by decide) rfl rfl dX4_someInvalid_9 ?_
    refine x_iload_n C dX4_someInvalid_12 1 rfl ?_
    refine x_iald C 2 0 rfl rfl i1 rfl (by omega) (by decide) (uV 1 i1) rfl dX4_someInvalid_13 ?_
    refine x_if_ne C 19 dX4_someInvalid_14 (by decide) (fun c6 => ?_) (fun c6 => ?_)
    · refine x_iconst C 1 dX4_someInvalid_17 (by decide) ?_
      exact x_zret C rfl (by decide) dX4_someInvalid_18 rfl rfl
    · refine x_iinc (L' := [(1, .int (nI (i1 + 1))), (0, .ref hV)]) C (nI (i1 + 1)) dX4_someInvalid_19 1 rfl (nI_add _ _) (by decide) rfl ?_
      refine x_goto C 2 dX4_someInvalid_22 (by decide) ?_
      refine x_lsub (L' := [(0, .ref hV), (1, .int (nI (i1 + 1)))]) [1, 0] rfl ?_
      exact ih4 ()

def f_X5_count_k82 (a4 : St) (b6 : Int32) : St := put a4 1 0 b6
def f_X5_count_x26 (xo : Int32) (a4 : St) : St := f_X5_count_k82 a4 (if (f_X6_has xo 0) = true then 0 else ((a4 1 0) + 1))
def f_X5_count_k56 (i3 : Nat) (a4 : St) (b12 : Int32) : St := put a4 0 i3 b12
def f_X5_count_t26 (xo : Int32) (i3 : Nat) (a4 : St) : St := f_X5_count_k56 i3 a4 (if (f_X6_has xo (nI i3)) = true then ((a4 0 i3) + 1) else 0)
def f_X5_count_k21 (uW : St) (xo : Int32) (b2 : Int32) : St := f_X5_count_x26 xo (up (f_X5_count_t26 xo) 0 5 (put uW 2 0 b2))
def f_X5_count (uW : St) (xo : Int32) (xt : Bool) : St := f_X5_count_k21 uW xo (if xt = true then 0 else (imn ((uW 2 0) + 1) 216))
theorem hd_X5_count : yX5_count.cls ≠ "java/lang/invoke/MethodHandle" ∧ yX5_count.cls ≠ "java/lang/invoke/VarHandle" ∧ (parseMethodDescriptor yX5_count.desc).map (fun d => d.parameters.length) = some 2 := by decide +kernel
set_option maxHeartbeats 4000000 in
set_option maxRecDepth 100000 in
theorem c_X5_count (l : Launch) (D : va_G) (cI cZ cO : ClassId) (hW aW0 : Nat) (uW : St) (xo : Int32) (xt : Bool)  : CTv l D (T3 cI cZ cO) yX5_count (Cond.code yX5_count cX5_count 4 none :: WA) ({ frames := 1, cells := 0, slots := 0, locals := 21 } : Room) [.ref hW, .int xo, .int (b2i xt)] (wX5 cI cZ cO hW aW0 uW) (wX5 cI cZ cO hW aW0 (f_X5_count uW xo xt)) := by
  refine ct_v (K := fun z => z) (t := f_X5_count uW xo xt) (wf := fun o => wX5 cI cZ cO hW aW0 o) (own := RX5) (nm := "count") (L0 := [(0, .ref hW), (1, .int xo), (2, .int (b2i xt))]) (plainFor_of_name (by decide +kernel)) rfl rfl (Nat.le_of_ble_eq_true rfl) rfl ?_
  intro p e s m args below meth c A C
  unfold f_X5_count
  refine x_aload_n C dX5_count_0 0 rfl ?_
  refine x_iload_n C dX5_count_1 2 rfl ?_
  refine x_join (fun (b2 : Int32) => f_X5_count_k21 uW xo b2) 21 (fun (b2 : Int32) => [(0, .ref hW), (1, .int xo), (2, .int (b2i xt))]) (fun (b2 : Int32) => [.int b2, .ref hW]) (fun (b2 : Int32) => wX5 cI cZ cO hW aW0 uW) (fun b2 => ?_) _ (fun J14 => ?_)
  · unfold f_X5_count_k21
    refine x_put (ws' := wX5 cI cZ cO hW aW0 (put uW 2 0 b2)) C hwsX50 tyX5 tyX5_ok nmX5 2 mw_12 0 rfl rfl (by decide) rfl rfl rfl rfl (Nat.le_of_ble_eq_true rfl) dX5_count_21 rfl ?_
    refine x_iconst C 0 dX5_count_24 (by decide) ?_
    refine x_istore_n (L' := [(3, .int 0), (0, .ref hW), (1, .int xo), (2, .int (b2i xt))]) C dX5_count_25 (by decide) rfl ?_
    refine x_lsub (L' := [(0, .ref hW), (1, .int xo), (2, .int (b2i xt)), (3, .int 0)]) [1, 2, 3, 0] rfl ?_
    refine x_loop (f_X5_count_t26 xo) (fun (a4 : St) => f_X5_count_x26 xo a4) 5 26 (fun (i3 : Nat) (a4 : St) => [(0, .ref hW), (1, .int xo), (2, .int (b2i xt)), (3, .int (nI i3))]) (fun (i3 : Nat) (a4 : St) => []) (fun (i3 : Nat) (a4 : St) => wX5 cI cZ cO hW aW0 a4) (fun a4 => ?_) (fun i3 a4 K10 hk8 ih9 => ?_) 5 0 (put uW 2 0 b2) (by omega)
    · unfold f_X5_count_x26
      refine x_iload_n C dX5_count_26 3 rfl ?_
      refine x_iconst C 5 dX5_count_27 (by decide) ?_
      refine x_icmp_ge_t C 63 dX5_count_28 (by decide) (by decide) ?_
      refine x_aload_n C dX5_count_63 0 rfl ?_
      refine x_iload_n C dX5_count_64 1 rfl ?_
      refine x_iconst C 0 dX5_count_65 (by decide) ?_
      refine x_cNi (As := [.int xo, .int 0]) (ws' := wX5 cI cZ cO hW aW0 a4) C C.2.2.2.1.2.2.2.2.2.2.1 mw_108 mw_37 mw_105 hd_X6_has rfl rfl ⟨Nat.le_of_ble_eq_true rfl, Nat.le_of_ble_eq_true rfl⟩ (c_X6_has l D cI cZ cO  xo 0 ) [] [.inl 0, .inl 1] trivial rfl ⟨rfl, rfl, trivial⟩ rfl ⟨rfl, rfl, trivial⟩ rfl rfl (Nat.le_of_ble_eq_true rfl) (Nat.zero_le _) (Nat.zero_le _) dX5_count_66 ?_
      refine x_join (fun (b6 : Int32) => f_X5_count_k82 a4 b6) 82 (fun (b6 : Int32) => [(0, .ref hW), (1, .int xo), (2, .int (b2i xt)), (3, .int (nI 5))]) (fun (b6 : Int32) => [.int b6, .ref hW]) (fun (b6 : Int32) => wX5 cI cZ cO hW aW0 a4) (fun b6 => ?_) _ (fun J7 => ?_)
      · unfold f_X5_count_k82
        refine x_put (ws' := wX5 cI cZ cO hW aW0 (put a4 1 0 b6)) C hwsX50 tyX5 tyX5_ok nmX5 1 mw_11 0 rfl rfl (by decide) rfl rfl rfl rfl (Nat.le_of_ble_eq_true rfl) dX5_count_82 rfl ?_
        exact x_vret C rfl dX5_count_85 rfl
      · refine x_if_eqZ C 76 dX5_count_69 (by decide) (fun c5 => ?_) (fun c5 => ?_)
        · refine x_iconst C 0 dX5_count_72 (by decide) ?_
          refine x_goto C 82 dX5_count_73 (by decide) ?_
          exact J7 0
        · refine x_aload_n C dX5_count_76 0 rfl ?_
          refine x_get (v := .int (a4 1 0)) C hwsX50 1 mw_11 0 rfl rfl (by decide) rfl rfl dX5_count_77 ?_
          refine x_iconst C 1 dX5_count_80 (by decide) ?_
          refine x_iadd C dX5_count_81 ?_
          exact J7 ((a4 1 0) + 1)
    · unfold f_X5_count_t26
      refine x_iload_n C dX5_count_26 3 rfl ?_
      refine x_iconst C 5 dX5_count_27 (by decide) ?_
      refine x_icmp_ge_f C 63 dX5_count_28 (by decide) (nI_lt (b := 5) hk8 (by omega)) ?_
      refine x_aload_n C dX5_count_31 0 rfl ?_
      refine x_get (v := .ref aW0) C hwsX50 0 mw_10 0 rfl rfl (by decide) rfl rfl dX5_count_32 ?_
      refine x_iload_n C dX5_count_35 3 rfl ?_
      refine x_iload_n C dX5_count_36 1 rfl ?_
      refine x_iload_n C dX5_count_37 3 rfl ?_
      refine x_cNi (As := [.int xo, .int (nI i3)]) (ws' := wX5 cI cZ cO hW aW0 a4) C C.2.2.2.1.2.2.2.2.2.2.1 mw_108 mw_37 mw_105 hd_X6_has rfl rfl ⟨Nat.le_of_ble_eq_true rfl, Nat.le_of_ble_eq_true rfl⟩ (c_X6_has l D cI cZ cO  xo (nI i3) ) [] [.inl 0, .inl 1] trivial rfl ⟨rfl, rfl, trivial⟩ rfl ⟨rfl, rfl, trivial⟩ rfl rfl (Nat.le_of_ble_eq_true rfl) (Nat.zero_le _) (Nat.zero_le _) dX5_count_38 ?_
      refine x_join (fun (b12 : Int32) => f_X5_count_k56 i3 a4 b12) 56 (fun (b12 : Int32) => [(0, .ref hW), (1, .int xo), (2, .int (b2i xt)), (3, .int (nI i3))]) (fun (b12 : Int32) => [.int b12, .int (nI i3), .ref aW0]) (fun (b12 : Int32) => wX5 cI cZ cO hW aW0 a4) (fun b12 => ?_) _ (fun J13 => ?_)
      · unfold f_X5_count_k56
        refine x_iast (ws' := wX5 cI cZ cO hW aW0 (put a4 0 i3 b12)) C 1 0 rfl rfl i3 rfl (by omega) (by decide) dX5_count_56 rfl ?_
        refine x_iinc (L' := [(3, .int (nI (i3 + 1))), (0, .ref hW), (1, .int xo), (2, .int (b2i xt))]) C (nI (i3 + 1)) dX5_count_57 3 rfl (nI_add _ _) (by decide) rfl ?_
        refine x_goto C 26 dX5_count_60 (by decide) ?_
        refine x_lsub (L' := [(0, .ref hW), (1, .int xo), (2, .int (b2i xt)), (3, .int (nI (i3 + 1)))]) [1, 2, 3, 0] rfl ?_
        exact ih9 (put a4 0 i3 b12)
      · refine x_if_eqZ C 55 dX5_count_41 (by decide) (fun c11 => ?_) (fun c11 => ?_)
        · refine x_aload_n C dX5_count_44 0 rfl ?_
          refine x_get (v := .ref aW0) C hwsX50 0 mw_10 0 rfl rfl (by decide) rfl rfl dX5_count_45 ?_
          refine x_iload_n C dX5_count_48 3 rfl ?_
          refine x_iald C 1 0 rfl rfl i3 rfl (by omega) (by decide) (a4 0 i3) rfl dX5_count_49 ?_
          refine x_iconst C 1 dX5_count_50 (by decide) ?_
          refine x_iadd C dX5_count_51 ?_
          refine x_goto C 56 dX5_count_52 (by decide) ?_
          exact J13 ((a4 0 i3) + 1)
        · refine x_iconst C 0 dX5_count_55 (by decide) ?_
          exact J13 0
  · refine x_if_eqZ C 9 dX5_count_2 (by decide) (fun c1 => ?_) (fun c1 => ?_)
    · refine x_iconst C 0 dX5_count_5 (by decide) ?_
      refine x_goto C 21 dX5_count_6 (by decide) ?_
      exact J14 0
    · refine x_aload_n C dX5_count_9 0 rfl ?_
      refine x_get (v := .int (uW 2 0)) C hwsX50 2 mw_12 0 rfl rfl (by decide) rfl rfl dX5_count_10 ?_
      refine x_iconst C 1 dX5_count_13 (by decide) ?_
      refine x_iadd C dX5_count_14 ?_
      refine x_sipush C 216 dX5_count_15 (by decide) ?_
      refine x_mmin C mw_107 mw_40 mw_41 mw_42 (Nat.le_of_ble_eq_true rfl) (Nat.le_of_ble_eq_true rfl) (Nat.zero_le _) (Nat.zero_le _) dX5_count_18 ?_
      exact J14 (imn ((uW 2 0) + 1) 216)

def f_X5_causeOfPower_l60 (uW : St) (uV : St) (b6 : Unit) : Int32 := if (uW 1 0) < 100 then 0 else (if (f_X4_isSeen uV 2) = true then 5 else 0)
def f_X5_causeOfPower_l37 (uW : St) (uV : St) (b4 : Unit) : Int32 := if (uW 0 0) < 30 then (f_X5_causeOfPower_l60 uW uV ()) else (if (f_X4_isSeen uV 2) = true then (f_X5_causeOfPower_l60 uW uV ()) else 4)
def f_X5_causeOfPower_l21 (uW : St) (uV : St) (b2 : Unit) : Int32 := if (uW 2 0) < 216 then (f_X5_causeOfPower_l37 uW uV ()) else (if (f_X4_isSeen uV 1) = true then 3 else (f_X5_causeOfPower_l37 uW uV ()))
def f_X5_causeOfPower (uW : St) (uV : St) : Int32 := if (uW 2 0) = 10 then (if (f_X4_isSeen uV 1) = true then (f_X5_causeOfPower_l21 uW uV ()) else 2) else (f_X5_causeOfPower_l21 uW uV ())
theorem hd_X5_causeOfPower : yX5_causeOfPower.cls ≠ "java/lang/invoke/MethodHandle" ∧ yX5_causeOfPower.cls ≠ "java/lang/invoke/VarHandle" ∧ (parseMethodDescriptor yX5_causeOfPower.desc).map (fun d => d.parameters.length) = some 1 := by decide +kernel
set_option maxHeartbeats 4000000 in
set_option maxRecDepth 100000 in
theorem c_X5_causeOfPower (l : Launch) (D : va_G) (cI cZ cO : ClassId) (hW aW0 hV aV0 aV1 : Nat) (uW : St) (uV : St)  : CTi l D (T3 cI cZ cO) yX5_causeOfPower (Cond.code yX5_causeOfPower cX5_causeOfPower 4 (some .int) :: WA) ({ frames := 1, cells := 0, slots := 0, locals := 21 } : Room) [.ref hW, .ref hV] (wX5 cI cZ cO hW aW0 uW ++ wX4 cI cZ cO hV aV0 aV1 uV) ((f_X5_causeOfPower uW uV)) (wX5 cI cZ cO hW aW0 uW ++ wX4 cI cZ cO hV aV0 aV1 uV) := by
  refine ct_i (K := fun z => z) (t := f_X5_causeOfPower uW uV) (rf := fun o => o) (wf := fun o => wX5 cI cZ cO hW aW0 uW ++ wX4 cI cZ cO hV aV0 aV1 uV) (own := RX5) (nm := "causeOfPower") (L0 := [(0, .ref hW), (1, .ref hV)]) (plainFor_of_name (by decide +kernel)) rfl rfl (Nat.le_of_ble_eq_true rfl) rfl ?_
  intro p e s m args below meth c A C
  unfold f_X5_causeOfPower
  refine x_aload_n C dX5_causeOfPower_0 1 rfl ?_
  refine x_iconst C 1 dX5_causeOfPower_1 (by decide) ?_
  refine x_cVi (q0 := 2) (As := [.int 1]) (ws' := wX5 cI cZ cO hW aW0 uW ++ wX4 cI cZ cO hV aV0 aV1 uV) C mw_111 mw_53 mw_54 mw_17 mw_49 hd_X4_isSeen rfl rfl ⟨Nat.le_of_ble_eq_true rfl, Nat.le_of_ble_eq_true rfl⟩ rfl rfl rfl (c_X4_isSeen l D cI cZ cO hV aV0 aV1 uV 1 (by omega)) [2, 3, 4] [.inl 0, .inl 1, .inr 0, .inr 1, .inr 2] ⟨rfl, rfl, rfl, trivial⟩ rfl ⟨rfl, rfl, rfl, rfl, rfl, trivial⟩ rfl ⟨rfl, rfl, rfl, rfl, rfl, trivial⟩ rfl rfl (Nat.le_of_ble_eq_true rfl) (Nat.zero_le _) (Nat.zero_le _) dX5_causeOfPower_2 ?_
  refine x_istore_n (L' := [(2, .int (b2i (f_X4_isSeen uV 1))), (0, .ref hW), (1, .ref hV)]) C dX5_causeOfPower_5 (by decide) rfl ?_
  refine x_aload_n C dX5_causeOfPower_6 1 rfl ?_
  refine x_get (v := .int (uW 2 0)) C hwsX50 2 mw_12 0 rfl rfl (by decide) rfl rfl dX5_causeOfPower_7 ?_
  refine x_bipush C 10 dX5_causeOfPower_10 (by decide) ?_
  refine x_lab (fun (b2 : Unit) => f_X5_causeOfPower_l21 uW uV b2) 21 (fun (b2 : Unit) => [(0, .ref hW), (1, .ref hV), (2, .int (b2i (f_X4_isSeen uV 1)))]) (fun (b2 : Unit) => []) (fun (b2 : Unit) => wX5 cI cZ cO hW aW0 uW ++ wX4 cI cZ cO hV aV0 aV1 uV) (fun b2 => ?_) (fun J13 => ?_)
  · unfold f_X5_causeOfPower_l21
    refine x_aload_n C dX5_causeOfPower_21 0 rfl ?_
    refine x_get (v := .int (uW 2 0)) C hwsX50 2 mw_12 0 rfl rfl (by decide) rfl rfl dX5_causeOfPower_22 ?_
    refine x_sipush C 216 dX5_causeOfPower_25 (by decide) ?_
    refine x_lab (fun (b4 : Unit) => f_X5_causeOfPower_l37 uW uV b4) 37 (fun (b4 : Unit) => [(0, .ref hW), (1, .ref hV), (2, .int (b2i (f_X4_isSeen uV 1)))]) (fun (b4 : Unit) => []) (fun (b4 : Unit) => wX5 cI cZ cO hW aW0 uW ++ wX4 cI cZ cO hV aV0 aV1 uV) (fun b4 => ?_) (fun J11 => ?_)
    · unfold f_X5_causeOfPower_l37
      refine x_aload_n C dX5_causeOfPower_37 1 rfl ?_
      refine x_iconst C 2 dX5_causeOfPower_38 (by decide) ?_
      refine x_cVi (q0 := 2) (As := [.int 2]) (ws' := wX5 cI cZ cO hW aW0 uW ++ wX4 cI cZ cO hV aV0 aV1 uV) C mw_111 mw_53 mw_54 mw_17 mw_49 hd_X4_isSeen rfl rfl ⟨Nat.le_of_ble_eq_true rfl, Nat.le_of_ble_eq_true rfl⟩ rfl rfl rfl (c_X4_isSeen l D cI cZ cO hV aV0 aV1 uV 2 (by omega)) [2, 3, 4] [.inl 0, .inl 1, .inr 0, .inr 1, .inr 2] ⟨rfl, rfl, rfl, trivial⟩ rfl ⟨rfl, rfl, rfl, rfl, rfl, trivial⟩ rfl ⟨rfl, rfl, rfl, rfl, rfl, trivial⟩ rfl rfl (Nat.le_of_ble_eq_true rfl) (Nat.zero_le _) (Nat.zero_le _) dX5_causeOfPower_39 ?_
      refine x_istore_n (L' := [(3, .int (b2i (f_X4_isSeen uV 2))), (0, .ref hW), (1, .ref hV), (2, .int (b2i (f_X4_isSeen uV 1)))]) C dX5_causeOfPower_42 (by decide) rfl ?_
      refine x_aload_n C dX5_causeOfPower_43 1 rfl ?_
      refine x_get (v := .ref aW0) C hwsX50 0 mw_10 0 rfl rfl (by decide) rfl rfl dX5_causeOfPower_44 ?_
      refine x_iconst C 0 dX5_causeOfPower_47 (by decide) ?_
      refine x_iald C 1 0 rfl rfl 0 rfl (by omega) (by decide) (uW 0 0) rfl dX5_causeOfPower_48 ?_
      refine x_bipush C 30 dX5_causeOfPower_49 (by decide) ?_
      refine x_lab (fun (b6 : Unit) => f_X5_causeOfPower_l60 uW uV b6) 60 (fun (b6 : Unit) => [(0, .ref hW), (1, .ref hV), (2, .int (b2i (f_X4_isSeen uV 1))), (3, .int (b2i (f_X4_isSeen uV 2)))]) (fun (b6 : Unit) => []) (fun (b6 : Unit) => wX5 cI cZ cO hW aW0 uW ++ wX4 cI cZ cO hV aV0 aV1 uV) (fun b6 => ?_) (fun J9 => ?_)
      · unfold f_X5_causeOfPower_l60
        refine x_aload_n C dX5_causeOfPower_60 0 rfl ?_
        refine x_get (v := .int (uW 1 0)) C hwsX50 1 mw_11 0 rfl rfl (by decide) rfl rfl dX5_causeOfPower_61 ?_
        refine x_bipush C 100 dX5_causeOfPower_64 (by decide) ?_
        refine x_icmp_lt C 77 dX5_causeOfPower_66 (by decide) (fun c7 => ?_) (fun c7 => ?_)
        · refine x_iconst C 0 dX5_causeOfPower_77 (by decide) ?_
          exact x_iret C rfl dX5_causeOfPower_78 rfl rfl
        · refine x_iload_n C dX5_causeOfPower_69 3 rfl ?_
          refine x_if_eqZ C 77 dX5_causeOfPower_70 (by decide) (fun c8 => ?_) (fun c8 => ?_)
          · refine x_iconst C 5 dX5_causeOfPower_73 (by decide) ?_
            refine x_goto C 78 dX5_causeOfPower_74 (by decide) ?_
            exact x_iret C rfl dX5_causeOfPower_78 rfl rfl
          · refine x_iconst C 0 dX5_causeOfPower_77 (by decide) ?_
            exact x_iret C rfl dX5_causeOfPower_78 rfl rfl
      refine x_icmp_lt C 60 dX5_causeOfPower_51 (by decide) (fun c5 => ?_) (fun c5 => ?_)
      · refine x_lsub (L' := [(0, .ref hW), (1, .ref hV), (2, .int (b2i (f_X4_isSeen uV 1))), (3, .int (b2i (f_X4_isSeen uV 2)))]) [1, 2, 3, 0] rfl ?_
        exact J9 ()
      · refine x_iload_n C dX5_causeOfPower_54 0 rfl ?_
        refine x_if_neZ C 60 dX5_causeOfPower_55 (by decide) (fun c10 => ?_) (fun c10 => ?_)
        · refine x_lsub (L' := [(0, .ref hW), (1, .ref hV), (2, .int (b2i (f_X4_isSeen uV 1))), (3, .int (b2i (f_X4_isSeen uV 2)))]) [1, 2, 3, 0] rfl ?_
          exact J9 ()
        · refine x_iconst C 4 dX5_causeOfPower_58 (by decide) ?_
          exact x_iret C rfl dX5_causeOfPower_59 rfl rfl
    refine x_icmp_lt C 37 dX5_causeOfPower_28 (by decide) (fun c3 => ?_) (fun c3 => ?_)
    · exact J11 ()
    · refine x_iload_n C dX5_causeOfPower_31 2 rfl ?_
      refine x_if_eqZ C 37 dX5_causeOfPower_32 (by decide) (fun c12 => ?_) (fun c12 => ?_)
      · refine x_iconst C 3 dX5_causeOfPower_35 (by decide) ?_
        exact x_iret C rfl dX5_causeOfPower_36 rfl rfl
      · exact J11 ()
  refine x_icmp_ne C 21 dX5_causeOfPower_12 (by decide) (fun c1 => ?_) (fun c1 => ?_)
  · refine x_iload_n C dX5_causeOfPower_15 0 rfl ?_
    refine x_if_neZ C 21 dX5_causeOfPower_16 (by decide) (fun c14 => ?_) (fun c14 => ?_)
    · refine x_lsub (L' := [(0, .ref hW), (1, .ref hV), (2, .int (b2i (f_X4_isSeen uV 1)))]) [1, 2, 0] rfl ?_
      exact J13 ()
    · refine x_iconst C 2 dX5_causeOfPower_19 (by decide) ?_
      exact x_iret C rfl dX5_causeOfPower_20 rfl rfl
  · refine x_lsub (L' := [(0, .ref hW), (1, .ref hV), (2, .int (b2i (f_X4_isSeen uV 1)))]) [1, 2, 0] rfl ?_
    exact J13 ()

def f_X5_causeOfDoors_l23 (uW : St) (uV : St) (b2 : Unit) : Int32 := if (uW 0 2) < 70 then 0 else (if (f_X4_allSeen uV 3) = true then 0 else 7)
def f_X5_causeOfDoors (uW : St) (uV : St) : Int32 := if (uW 0 1) < 70 then (f_X5_causeOfDoors_l23 uW uV ()) else (if (f_X4_allSeen uV 6) = true then (f_X5_causeOfDoors_l23 uW uV ()) else 6)
theorem hd_X5_causeOfDoors : yX5_causeOfDoors.cls ≠ "java/lang/invoke/MethodHandle" ∧ yX5_causeOfDoors.cls ≠ "java/lang/invoke/VarHandle" ∧ (parseMethodDescriptor yX5_causeOfDoors.desc).map (fun d => d.parameters.length) = some 1 := by decide +kernel
set_option maxHeartbeats 4000000 in
set_option maxRecDepth 100000 in
theorem c_X5_causeOfDoors (l : Launch) (D : va_G) (cI cZ cO : ClassId) (hW aW0 hV aV0 aV1 : Nat) (uW : St) (uV : St)  : CTi l D (T3 cI cZ cO) yX5_causeOfDoors (Cond.code yX5_causeOfDoors cX5_causeOfDoors 2 (some .int) :: WA) ({ frames := 1, cells := 0, slots := 0, locals := 21 } : Room) [.ref hW, .ref hV] (wX5 cI cZ cO hW aW0 uW ++ wX4 cI cZ cO hV aV0 aV1 uV) ((f_X5_causeOfDoors uW uV)) (wX5 cI cZ cO hW aW0 uW ++ wX4 cI cZ cO hV aV0 aV1 uV) := by
  refine ct_i (K := fun z => z) (t := f_X5_causeOfDoors uW uV) (rf := fun o => o) (wf := fun o => wX5 cI cZ cO hW aW0 uW ++ wX4 cI cZ cO hV aV0 aV1 uV) (own := RX5) (nm := "causeOfDoors") (L0 := [(0, .ref hW), (1, .ref hV)]) (plainFor_of_name (by decide +kernel)) rfl rfl (Nat.le_of_ble_eq_true rfl) rfl ?_
  intro p e s m args below meth c A C
  unfold f_X5_causeOfDoors
  refine x_aload_n C dX5_causeOfDoors_0 0 rfl ?_
  refine x_get (v := .ref aW0) C hwsX50 0 mw_10 0 rfl rfl (by decide) rfl rfl dX5_causeOfDoors_1 ?_
  refine x_iconst C 1 dX5_causeOfDoors_4 (by decide) ?_
  refine x_iald C 1 0 rfl rfl 1 rfl (by omega) (by decide) (uW 0 1) rfl dX5_causeOfDoors_5 ?_
  refine x_bipush C 70 dX5_causeOfDoors_6 (by decide) ?_
  refine x_lab (fun (b2 : Unit) => f_X5_causeOfDoors_l23 uW uV b2) 23 (fun (b2 : Unit) => [(0, .ref hW), (1, .ref hV)]) (fun (b2 : Unit) => []) (fun (b2 : Unit) => wX5 cI cZ cO hW aW0 uW ++ wX4 cI cZ cO hV aV0 aV1 uV) (fun b2 => ?_) (fun J5 => ?_)
  · unfold f_X5_causeOfDoors_l23
    refine x_aload_n C dX5_causeOfDoors_23 0 rfl ?_
    refine x_get (v := .ref aW0) C hwsX50 0 mw_10 0 rfl rfl (by decide) rfl rfl dX5_causeOfDoors_24 ?_
    refine x_iconst C 2 dX5_causeOfDoors_27 (by decide) ?_
    refine x_iald C 1 0 rfl rfl 2 rfl (by omega) (by decide) (uW 0 2) rfl dX5_causeOfDoors_28 ?_
    refine x_bipush C 70 dX5_causeOfDoors_29 (by decide) ?_
    refine x_icmp_lt C 47 dX5_causeOfDoors_31 (by decide) (fun c3 => ?_) (fun c3 => ?_)
    · refine x_iconst C 0 dX5_causeOfDoors_47 (by decide) ?_
      exact x_iret C rfl dX5_causeOfDoors_48 rfl rfl
    · refine x_aload_n C dX5_causeOfDoors_34 1 rfl ?_
      refine x_iconst C 3 dX5_causeOfDoors_35 (by decide) ?_
      refine x_cVi (q0 := 2) (As := [.int 3]) (ws' := wX5 cI cZ cO hW aW0 uW ++ wX4 cI cZ cO hV aV0 aV1 uV) C mw_113 mw_56 mw_57 mw_17 mw_50 hd_X4_allSeen rfl rfl ⟨Nat.le_of_ble_eq_true rfl, Nat.le_of_ble_eq_true rfl⟩ rfl rfl rfl (c_X4_allSeen l D cI cZ cO hV aV0 aV1 uV 3 (by omega)) [2, 3, 4] [.inl 0, .inl 1, .inr 0, .inr 1, .inr 2] ⟨rfl, rfl, rfl, trivial⟩ rfl ⟨rfl, rfl, rfl, rfl, rfl, trivial⟩ rfl ⟨rfl, rfl, rfl, rfl, rfl, trivial⟩ rfl rfl (Nat.le_of_ble_eq_true rfl) (Nat.zero_le _) (Nat.zero_le _) dX5_causeOfDoors_36 ?_
      refine x_if_neZ C 47 dX5_causeOfDoors_39 (by decide) (fun c4 => ?_) (fun c4 => ?_)
      · refine x_iconst C 0 dX5_causeOfDoors_47 (by decide) ?_
        exact x_iret C rfl dX5_causeOfDoors_48 rfl rfl
      · refine x_bipush C 7 dX5_causeOfDoors_42 (by decide) ?_
        refine x_goto C 48 dX5_causeOfDoors_44 (by decide) ?_
        exact x_iret C rfl dX5_causeOfDoors_48 rfl rfl
  refine x_icmp_lt C 23 dX5_causeOfDoors_8 (by decide) (fun c1 => ?_) (fun c1 => ?_)
  · exact J5 ()
  · refine x_aload_n C dX5_causeOfDoors_11 1 rfl ?_
    refine x_bipush C 6 dX5_causeOfDoors_12 (by decide) ?_
    refine x_cVi (q0 := 2) (As := [.int 6]) (ws' := wX5 cI cZ cO hW aW0 uW ++ wX4 cI cZ cO hV aV0 aV1 uV) C mw_113 mw_56 mw_57 mw_17 mw_50 hd_X4_allSeen rfl rfl ⟨Nat.le_of_ble_eq_true rfl, Nat.le_of_ble_eq_true rfl⟩ rfl rfl rfl (c_X4_allSeen l D cI cZ cO hV aV0 aV1 uV 6 (by omega)) [2, 3, 4] [.inl 0, .inl 1, .inr 0, .inr 1, .inr 2] ⟨rfl, rfl, rfl, trivial⟩ rfl ⟨rfl, rfl, rfl, rfl, rfl, trivial⟩ rfl ⟨rfl, rfl, rfl, rfl, rfl, trivial⟩ rfl rfl (Nat.le_of_ble_eq_true rfl) (Nat.zero_le _) (Nat.zero_le _) dX5_causeOfDoors_14 ?_
    refine x_if_neZ C 23 dX5_causeOfDoors_17 (by decide) (fun c6 => ?_) (fun c6 => ?_)
    · exact J5 ()
    · refine x_bipush C 6 dX5_causeOfDoors_20 (by decide) ?_
      exact x_iret C rfl dX5_causeOfDoors_22 rfl rfl

def f_X5_causeOfGears_k88 (b6 : Bool) : Int32 := if b6 = true then 9 else 0
def f_X5_causeOfGears_l63 (uW : St) (uV : St) (b9 : Unit) : Bool := if (uW 0 4) < 100 then false else (if (f_X4_allSeen uV 12) = true then false else true)
def f_X5_causeOfGears_l43 (uW : St) (uV : St) (b4 : Unit) : Int32 := f_X5_causeOfGears_k88 (if (uW 0 3) < 100 then (f_X5_causeOfGears_l63 uW uV ()) else (if (f_X4_allSeen uV 9) = true then (f_X5_causeOfGears_l63 uW uV ()) else true))
def f_X5_causeOfGears_l20 (uW : St) (uV : St) (b2 : Unit) : Int32 := if (uW 0 4) < 70 then (f_X5_causeOfGears_l43 uW uV ()) else (if (f_X4_someSeen uV 9) = true then 8 else (f_X5_causeOfGears_l43 uW uV ()))
def f_X5_causeOfGears (uW : St) (uV : St) : Int32 := if (uW 0 3) < 70 then (f_X5_causeOfGears_l20 uW uV ()) else (if (f_X4_someSeen uV 12) = true then 8 else (f_X5_causeOfGears_l20 uW uV ()))
theorem hd_X5_causeOfGears : yX5_causeOfGears.cls ≠ "java/lang/invoke/MethodHandle" ∧ yX5_causeOfGears.cls ≠ "java/lang/invoke/VarHandle" ∧ (parseMethodDescriptor yX5_causeOfGears.desc).map (fun d => d.parameters.length) = some 1 := by decide +kernel
set_option maxHeartbeats 4000000 in
set_option maxRecDepth 100000 in
theorem c_X5_causeOfGears (l : Launch) (D : va_G) (cI cZ cO : ClassId) (hW aW0 hV aV0 aV1 : Nat) (uW : St) (uV : St)  : CTi l D (T3 cI cZ cO) yX5_causeOfGears (Cond.code yX5_causeOfGears cX5_causeOfGears 3 (some .int) :: WA) ({ frames := 1, cells := 0, slots := 0, locals := 21 } : Room) [.ref hW, .ref hV] (wX5 cI cZ cO hW aW0 uW ++ wX4 cI cZ cO hV aV0 aV1 uV) ((f_X5_causeOfGears uW uV)) (wX5 cI cZ cO hW aW0 uW ++ wX4 cI cZ cO hV aV0 aV1 uV) := by
  refine ct_i (K := fun z => z) (t := f_X5_causeOfGears uW uV) (rf := fun o => o) (wf := fun o => wX5 cI cZ cO hW aW0 uW ++ wX4 cI cZ cO hV aV0 aV1 uV) (own := RX5) (nm := "causeOfGears") (L0 := [(0, .ref hW), (1, .ref hV)]) (plainFor_of_name (by decide +kernel)) rfl rfl (Nat.le_of_ble_eq_true rfl) rfl ?_
  intro p e s m args below meth c A C
  unfold f_X5_causeOfGears
  refine x_aload_n C dX5_causeOfGears_0 0 rfl ?_
  refine x_get (v := .ref aW0) C hwsX50 0 mw_10 0 rfl rfl (by decide) rfl rfl dX5_causeOfGears_1 ?_
  refine x_iconst C 3 dX5_causeOfGears_4 (by decide) ?_
  refine x_iald C 1 0 rfl rfl 3 rfl (by omega) (by decide) (uW 0 3) rfl dX5_causeOfGears_5 ?_
  refine x_bipush C 70 dX5_causeOfGears_6 (by decide) ?_
  refine x_lab (fun (b2 : Unit) => f_X5_causeOfGears_l20 uW uV b2) 20 (fun (b2 : Unit) => [(0, .ref hW), (1, .ref hV)]) (fun (b2 : Unit) => []) (fun (b2 : Unit) => wX5 cI cZ cO hW aW0 uW ++ wX4 cI cZ cO hV aV0 aV1 uV) (fun b2 => ?_) (fun J16 => ?_)
  · unfold f_X5_causeOfGears_l20
    refine x_aload_n C dX5_causeOfGears_20 0 rfl ?_
    refine x_get (v := .ref aW0) C hwsX50 0 mw_10 0 rfl rfl (by decide) rfl rfl dX5_causeOfGears_21 ?_
    refine x_iconst C 4 dX5_causeOfGears_24 (by decide) ?_
    refine x_iald C 1 0 rfl rfl 4 rfl (by omega) (by decide) (uW 0 4) rfl dX5_causeOfGears_25 ?_
    refine x_bipush C 70 dX5_causeOfGears_26 (by decide) ?_
    refine x_lab (fun (b4 : Unit) => f_X5_causeOfGears_l43 uW uV b4) 43 (fun (b4 : Unit) => [(0, .ref hW), (1, .ref hV)]) (fun (b4 : Unit) => []) (fun (b4 : Unit) => wX5 cI cZ cO hW aW0 uW ++ wX4 cI cZ cO hV aV0 aV1 uV) (fun b4 => ?_) (fun J14 => ?_)
    · unfold f_X5_causeOfGears_l43
      refine x_aload_n C dX5_causeOfGears_43 0 rfl ?_
      refine x_get (v := .ref aW0) C hwsX50 0 mw_10 0 rfl rfl (by decide) rfl rfl dX5_causeOfGears_44 ?_
      refine x_iconst C 3 dX5_causeOfGears_47 (by decide) ?_
      refine x_iald C 1 0 rfl rfl 3 rfl (by omega) (by decide) (uW 0 3) rfl dX5_causeOfGears_48 ?_
      refine x_bipush C 100 dX5_causeOfGears_49 (by decide) ?_
      refine x_join (fun (b6 : Bool) => f_X5_causeOfGears_k88 b6) 88 (fun (b6 : Bool) => [(0, .ref hW), (1, .ref hV)]) (fun (b6 : Bool) => [.int (b2i b6)]) (fun (b6 : Bool) => wX5 cI cZ cO hW aW0 uW ++ wX4 cI cZ cO hV aV0 aV1 uV) (fun b6 => ?_) _ (fun J8 => ?_)
      · unfold f_X5_causeOfGears_k88
        refine x_istore_n (L' := [(2, .int (b2i b6)), (0, .ref hW), (1, .ref hV)]) C dX5_causeOfGears_88 (by decide) rfl ?_
        refine x_iload_n C dX5_causeOfGears_89 0 rfl ?_
        refine x_if_eqZ C 98 dX5_causeOfGears_90 (by decide) (fun c7 => ?_) (fun c7 => ?_)
        · refine x_bipush C 9 dX5_causeOfGears_93 (by decide) ?_
          refine x_goto C 99 dX5_causeOfGears_95 (by decide) ?_
          exact x_iret C rfl dX5_causeOfGears_99 rfl rfl
        · refine x_iconst C 0 dX5_causeOfGears_98 (by decide) ?_
          exact x_iret C rfl dX5_causeOfGears_99 rfl rfl
      · refine x_lab (fun (b9 : Unit) => f_X5_causeOfGears_l63 uW uV b9) 63 (fun (b9 : Unit) => [(0, .ref hW), (1, .ref hV)]) (fun (b9 : Unit) => []) (fun (b9 : Unit) => wX5 cI cZ cO hW aW0 uW ++ wX4 cI cZ cO hV aV0 aV1 uV) (fun b9 => ?_) (fun J12 => ?_)
        · unfold f_X5_causeOfGears_l63
          refine x_aload_n C dX5_causeOfGears_63 0 rfl ?_
          refine x_get (v := .ref aW0) C hwsX50 0 mw_10 0 rfl rfl (by decide) rfl rfl dX5_causeOfGears_64 ?_
          refine x_iconst C 4 dX5_causeOfGears_67 (by decide) ?_
          refine x_iald C 1 0 rfl rfl 4 rfl (by omega) (by decide) (uW 0 4) rfl dX5_causeOfGears_68 ?_
          refine x_bipush C 100 dX5_causeOfGears_69 (by decide) ?_
          refine x_icmp_lt C 87 dX5_causeOfGears_71 (by decide) (fun c10 => ?_) (fun c10 => ?_)
          · refine x_iconst C 0 dX5_causeOfGears_87 (by decide) ?_
            exact J8 false
          · refine x_aload_n C dX5_causeOfGears_74 1 rfl ?_
            refine x_bipush C 12 dX5_causeOfGears_75 (by decide) ?_
            refine x_cVi (q0 := 2) (As := [.int 12]) (ws' := wX5 cI cZ cO hW aW0 uW ++ wX4 cI cZ cO hV aV0 aV1 uV) C mw_113 mw_56 mw_57 mw_17 mw_50 hd_X4_allSeen rfl rfl ⟨Nat.le_of_ble_eq_true rfl, Nat.le_of_ble_eq_true rfl⟩ rfl rfl rfl (c_X4_allSeen l D cI cZ cO hV aV0 aV1 uV 12 (by omega)) [2, 3, 4] [.inl 0, .inl 1, .inr 0, .inr 1, .inr 2] ⟨rfl, rfl, rfl, trivial⟩ rfl ⟨rfl, rfl, rfl, rfl, rfl, trivial⟩ rfl ⟨rfl, rfl, rfl, rfl, rfl, trivial⟩ rfl rfl (Nat.le_of_ble_eq_true rfl) (Nat.zero_le _) (Nat.zero_le _) dX5_causeOfGears_77 ?_
            refine x_if_neZ C 87 dX5_causeOfGears_80 (by decide) (fun c11 => ?_) (fun c11 => ?_)
            · refine x_iconst C 0 dX5_causeOfGears_87 (by decide) ?_
              exact J8 false
            · refine x_iconst C 1 dX5_causeOfGears_83 (by decide) ?_
              refine x_goto C 88 dX5_causeOfGears_84 (by decide) ?_
              exact J8 true
        refine x_icmp_lt C 63 dX5_causeOfGears_51 (by decide) (fun c5 => ?_) (fun c5 => ?_)
        · exact J12 ()
        · refine x_aload_n C dX5_causeOfGears_54 1 rfl ?_
          refine x_bipush C 9 dX5_causeOfGears_55 (by decide) ?_
          refine x_cVi (q0 := 2) (As := [.int 9]) (ws' := wX5 cI cZ cO hW aW0 uW ++ wX4 cI cZ cO hV aV0 aV1 uV) C mw_113 mw_56 mw_57 mw_17 mw_50 hd_X4_allSeen rfl rfl ⟨Nat.le_of_ble_eq_true rfl, Nat.le_of_ble_eq_true rfl⟩ rfl rfl rfl (c_X4_allSeen l D cI cZ cO hV aV0 aV1 uV 9 (by omega)) [2, 3, 4] [.inl 0, .inl 1, .inr 0, .inr 1, .inr 2] ⟨rfl, rfl, rfl, trivial⟩ rfl ⟨rfl, rfl, rfl, rfl, rfl, trivial⟩ rfl ⟨rfl, rfl, rfl, rfl, rfl, trivial⟩ rfl rfl (Nat.le_of_ble_eq_true rfl) (Nat.zero_le _) (Nat.zero_le _) dX5_causeOfGears_57 ?_
          refine x_if_eqZ C 83 dX5_causeOfGears_60 (by decide) (fun c13 => ?_) (fun c13 => ?_)
          · exact J12 ()
          · refine x_iconst C 1 dX5_causeOfGears_83 (by decide) ?_
            refine x_goto C 88 dX5_causeOfGears_84 (by decide) ?_
            exact J8 true
    refine x_icmp_lt C 43 dX5_causeOfGears_28 (by decide) (fun c3 => ?_) (fun c3 => ?_)
    · exact J14 ()
    · refine x_aload_n C dX5_causeOfGears_31 1 rfl ?_
      refine x_bipush C 9 dX5_causeOfGears_32 (by decide) ?_
      refine x_cVi (q0 := 2) (As := [.int 9]) (ws' := wX5 cI cZ cO hW aW0 uW ++ wX4 cI cZ cO hV aV0 aV1 uV) C mw_115 mw_91 mw_92 mw_17 mw_85 hd_X4_someSeen rfl rfl ⟨Nat.le_of_ble_eq_true rfl, Nat.le_of_ble_eq_true rfl⟩ rfl rfl rfl (c_X4_someSeen l D cI cZ cO hV aV0 aV1 uV 9 (by omega)) [2, 3, 4] [.inl 0, .inl 1, .inr 0, .inr 1, .inr 2] ⟨rfl, rfl, rfl, trivial⟩ rfl ⟨rfl, rfl, rfl, rfl, rfl, trivial⟩ rfl ⟨rfl, rfl, rfl, rfl, rfl, trivial⟩ rfl rfl (Nat.le_of_ble_eq_true rfl) (Nat.zero_le _) (Nat.zero_le _) dX5_causeOfGears_34 ?_
      refine x_if_eqZ C 43 dX5_causeOfGears_37 (by decide) (fun c15 => ?_) (fun c15 => ?_)
      · refine x_bipush C 8 dX5_causeOfGears_40 (by decide) ?_
        exact x_iret C rfl dX5_causeOfGears_42 rfl rfl
      · exact J14 ()
  refine x_icmp_lt C 20 dX5_causeOfGears_8 (by decide) (fun c1 => ?_) (fun c1 => ?_)
  · exact J16 ()
  · refine x_aload_n C dX5_causeOfGears_11 1 rfl ?_
    refine x_bipush C 12 dX5_causeOfGears_12 (by decide) ?_
    refine x_cVi (q0 := 2) (As := [.int 12]) (ws' := wX5 cI cZ cO hW aW0 uW ++ wX4 cI cZ cO hV aV0 aV1 uV) C mw_115 mw_91 mw_92 mw_17 mw_85 hd_X4_someSeen rfl rfl ⟨Nat.le_of_ble_eq_true rfl, Nat.le_of_ble_eq_true rfl⟩ rfl rfl rfl (c_X4_someSeen l D cI cZ cO hV aV0 aV1 uV 12 (by omega)) [2, 3, 4] [.inl 0, .inl 1, .inr 0, .inr 1, .inr 2] ⟨rfl, rfl, rfl, trivial⟩ rfl ⟨rfl, rfl, rfl, rfl, rfl, trivial⟩ rfl ⟨rfl, rfl, rfl, rfl, rfl, trivial⟩ rfl rfl (Nat.le_of_ble_eq_true rfl) (Nat.zero_le _) (Nat.zero_le _) dX5_causeOfGears_14 ?_
    refine x_if_neZ C 40 dX5_causeOfGears_17 (by decide) (fun c17 => ?_) (fun c17 => ?_)
    · refine x_bipush C 8 dX5_causeOfGears_40 (by decide) ?_
      exact x_iret C rfl dX5_causeOfGears_42 rfl rfl
    · exact J16 ()

def f_X5_firstCause_k25 (uW : St) (uV : St) (b3 : Int32) : Int32 := if b3 = 0 then (f_X5_causeOfGears uW uV) else b3
def f_X5_firstCause (uW : St) (uV : St) : Int32 := if (f_X4_someInvalid uV) = true then 1 else (f_X5_firstCause_k25 uW uV (if (f_X5_causeOfPower uW uV) = 0 then (f_X5_causeOfDoors uW uV) else (f_X5_causeOfPower uW uV)))
theorem hd_X5_firstCause : yX5_firstCause.cls ≠ "java/lang/invoke/MethodHandle" ∧ yX5_firstCause.cls ≠ "java/lang/invoke/VarHandle" ∧ (parseMethodDescriptor yX5_firstCause.desc).map (fun d => d.parameters.length) = some 1 := by decide +kernel
set_option maxHeartbeats 4000000 in
set_option maxRecDepth 100000 in
theorem c_X5_firstCause (l : Launch) (D : va_G) (cI cZ cO : ClassId) (hW aW0 hV aV0 aV1 : Nat) (uW : St) (uV : St)  : CTi l D (T3 cI cZ cO) yX5_firstCause (Cond.code yX5_firstCause cX5_firstCause 3 (some .int) :: WA) ({ frames := 2, cells := 0, slots := 0, locals := 44 } : Room) [.ref hW, .ref hV] (wX5 cI cZ cO hW aW0 uW ++ wX4 cI cZ cO hV aV0 aV1 uV) ((f_X5_firstCause uW uV)) (wX5 cI cZ cO hW aW0 uW ++ wX4 cI cZ cO hV aV0 aV1 uV) := by
  refine ct_i (K := fun z => z) (t := f_X5_firstCause uW uV) (rf := fun o => o) (wf := fun o => wX5 cI cZ cO hW aW0 uW ++ wX4 cI cZ cO hV aV0 aV1 uV) (own := RX5) (nm := "firstCause") (L0 := [(0, .ref hW), (1, .ref hV)]) (plainFor_of_name (by decide +kernel)) rfl rfl (Nat.le_of_ble_eq_true rfl) rfl ?_
  intro p e s m args below meth c A C
  unfold f_X5_firstCause
  refine x_aload_n C dX5_firstCause_0 1 rfl ?_
  refine x_cVi (q0 := 2) (As := []) (ws' := wX5 cI cZ cO hW aW0 uW ++ wX4 cI cZ cO hV aV0 aV1 uV) C mw_116 mw_117 mw_118 mw_17 mw_109 hd_X4_someInvalid rfl rfl ⟨Nat.le_of_ble_eq_true rfl, Nat.le_of_ble_eq_true rfl⟩ rfl rfl rfl (c_X4_someInvalid l D cI cZ cO hV aV0 aV1 uV ) [2, 3, 4] [.inl 0, .inl 1, .inr 0, .inr 1, .inr 2] ⟨rfl, rfl, rfl, trivial⟩ rfl ⟨rfl, rfl, rfl, rfl, rfl, trivial⟩ rfl ⟨rfl, rfl, rfl, rfl, rfl, trivial⟩ rfl rfl (Nat.le_of_ble_eq_true rfl) (Nat.zero_le _) (Nat.zero_le _) dX5_firstCause_1 ?_
  refine x_if_eqZ C 9 dX5_firstCause_4 (by decide) (fun c1 => ?_) (fun c1 => ?_)
  · refine x_iconst C 1 dX5_firstCause_7 (by decide) ?_
    exact x_iret C rfl dX5_firstCause_8 rfl rfl
  · refine x_aload_n C dX5_firstCause_9 0 rfl ?_
    refine x_aload_n C dX5_firstCause_10 1 rfl ?_
    refine x_cViW (q0 := 0) (As := [.ref hV]) C mw_119 mw_120 mw_121 mw_21 mw_110 hd_X5_causeOfPower rfl rfl ⟨Nat.le_of_ble_eq_true rfl, Nat.le_of_ble_eq_true rfl⟩ rfl rfl rfl (c_X5_causeOfPower l D cI cZ cO hW aW0 hV aV0 aV1 uW uV ) rfl rfl (Nat.le_of_ble_eq_true rfl) (Nat.zero_le _) (Nat.zero_le _) dX5_firstCause_11 ?_
    refine x_istore_n (L' := [(2, .int (f_X5_causeOfPower uW uV)), (0, .ref hW), (1, .ref hV)]) C dX5_firstCause_14 (by decide) rfl ?_
    refine x_iload_n C dX5_firstCause_15 0 rfl ?_
    refine x_join (fun (b3 : Int32) => f_X5_firstCause_k25 uW uV b3) 25 (fun (b3 : Int32) => [(0, .ref hW), (1, .ref hV), (2, .int b3)]) (fun (b3 : Int32) => []) (fun (b3 : Int32) => wX5 cI cZ cO hW aW0 uW ++ wX4 cI cZ cO hV aV0 aV1 uV) (fun b3 => ?_) _ (fun J5 => ?_)
    · unfold f_X5_firstCause_k25
      refine x_iload_n C dX5_firstCause_25 2 rfl ?_
      refine x_if_ne C 37 dX5_firstCause_26 (by decide) (fun c4 => ?_) (fun c4 => ?_)
      · refine x_aload_n C dX5_firstCause_29 0 rfl ?_
        refine x_aload_n C dX5_firstCause_30 1 rfl ?_
        refine x_cViW (q0 := 0) (As := [.ref hV]) C mw_125 mw_126 mw_127 mw_21 mw_114 hd_X5_causeOfGears rfl rfl ⟨Nat.le_of_ble_eq_true rfl, Nat.le_of_ble_eq_true rfl⟩ rfl rfl rfl (c_X5_causeOfGears l D cI cZ cO hW aW0 hV aV0 aV1 uW uV ) rfl rfl (Nat.le_of_ble_eq_true rfl) (Nat.zero_le _) (Nat.zero_le _) dX5_firstCause_31 ?_
        refine x_goto C 38 dX5_firstCause_34 (by decide) ?_
        exact x_iret C rfl dX5_firstCause_38 rfl rfl
      · refine x_iload_n C dX5_firstCause_37 2 rfl ?_
        exact x_iret C rfl dX5_firstCause_38 rfl rfl
    · refine x_if_ne C 25 dX5_firstCause_16 (by decide) (fun c2 => ?_) (fun c2 => ?_)
      · refine x_aload_n C dX5_firstCause_19 1 rfl ?_
        refine x_aload_n C dX5_firstCause_20 2 rfl ?_
        refine x_cViW (q0 := 0) (As := [.ref hV]) C mw_122 mw_123 mw_124 mw_21 mw_112 hd_X5_causeOfDoors rfl rfl ⟨Nat.le_of_ble_eq_true rfl, Nat.le_of_ble_eq_true rfl⟩ rfl rfl rfl (c_X5_causeOfDoors l D cI cZ cO hW aW0 hV aV0 aV1 uW uV ) rfl rfl (Nat.le_of_ble_eq_true rfl) (Nat.zero_le _) (Nat.zero_le _) dX5_firstCause_21 ?_
        refine x_istore_n (L' := [(2, .int (f_X5_causeOfDoors uW uV)), (0, .ref hW), (1, .ref hV)]) C dX5_firstCause_24 (by decide) rfl ?_
        refine x_lsub (L' := [(0, .ref hW), (1, .ref hV), (2, .int (f_X5_causeOfDoors uW uV))]) [1, 2, 0] rfl ?_
        exact J5 (f_X5_causeOfDoors uW uV)
      · refine x_lsub (L' := [(0, .ref hW), (1, .ref hV), (2, .int (f_X5_causeOfPower uW uV))]) [1, 2, 0] rfl ?_
        exact J5 (f_X5_causeOfPower uW uV)
end
section
theorem ix_of {x M : Int32} {n : Nat} (hn : n < 2 ^ 31) (hM : M = nI n) (h0 : ¬ x < 0) (h1 : ¬ M < x) : x = nI (ixn x) ∧ ixn x ≤ n := by
  subst hM
  obtain ⟨j, hj, e⟩ := nI_of2 (M := nI n) (nI_toInt hn) h0 (Int32.not_lt.mp h1)
  subst e
  have hc : ixn (nI j) = j := nI_clamp (by omega)
  rw [hc]
  exact ⟨rfl, hj⟩
theorem out_cases {x g : Int32} (h : f_X6_outside x g = false) : ¬ x < 0 ∧ ¬ g < x := by
  unfold f_X6_outside at h
  by_cases h0 : x < 0
  · rw [if_pos h0] at h; cases h
  · rw [if_neg h0] at h
    by_cases h1 : g < x
    · rw [if_pos h1] at h; cases h
    · exact ⟨h0, h1⟩
theorem out_nat {x g : Int32} (n : Nat) (hn : n < 2 ^ 31) (hg : g = nI n) (h : f_X6_outside x g = false) : x = nI (ixn x) ∧ ixn x ≤ n := ix_of hn hg (out_cases h).1 (out_cases h).2
def f_X0_orders_k64 (b5 : Int32) : Int32 := b5
def f_X0_orders_k61 (uC : St) (b8 : Int32) : Int32 := (stg (ixn (uC 3 0))) ||| (1 <<< (b8 &&& 31))
def f_X0_orders (uC : St) (uV : St) (uW : St) : Int32 := if (uC 8 0) = 1 then 0 else (if (uC 7 0) = 0 then (if (f_X6_outside (uC 3 0) 7) = true then 0 else (f_X0_orders_k64 (if (uC 3 0) = 3 then (f_X0_orders_k61 uC (if (uC 5 0) = 1 then 3 else 4)) else (stg (ixn (uC 3 0)))))) else 0)
theorem hd_X0_orders : yX0_orders.cls ≠ "java/lang/invoke/MethodHandle" ∧ yX0_orders.cls ≠ "java/lang/invoke/VarHandle" ∧ (parseMethodDescriptor yX0_orders.desc).map (fun d => d.parameters.length) = some 0 := by decide +kernel
set_option maxHeartbeats 4000000 in
set_option maxRecDepth 100000 in
theorem c_X0_orders (l : Launch) (D : va_G) (cI cZ cO : ClassId) (hC hV aV0 aV1 hW aW0 : Nat) (uC : St) (uV : St) (uW : St)  : CTi l D (T3 cI cZ cO) yX0_orders (Cond.code yX0_orders cX0_orders 2 (some .int) :: WA) ({ frames := 1, cells := 0, slots := 0, locals := 21 } : Room) [.ref hC] (wX0 cI cZ cO hC hV hW uC ++ wX4 cI cZ cO hV aV0 aV1 uV ++ wX5 cI cZ cO hW aW0 uW) ((f_X0_orders uC uV uW)) (wX0 cI cZ cO hC hV hW uC ++ wX4 cI cZ cO hV aV0 aV1 uV ++ wX5 cI cZ cO hW aW0 uW) := by
  refine ct_i (K := fun z => z) (t := f_X0_orders uC uV uW) (rf := fun o => o) (wf := fun o => wX0 cI cZ cO hC hV hW uC ++ wX4 cI cZ cO hV aV0 aV1 uV ++ wX5 cI cZ cO hW aW0 uW) (own := RX0) (nm := "orders") (L0 := [(0, .ref hC)]) (plainFor_of_name (by decide +kernel)) rfl rfl (Nat.le_of_ble_eq_true rfl) rfl ?_
  intro p e s m args below meth c A C
  unfold f_X0_orders
  refine x_aload_n C dX0_orders_0 0 rfl ?_
  refine x_get (v := .int (uC 8 0)) C hwsX00 8 mw_28 0 rfl rfl (by decide) rfl rfl dX0_orders_1 ?_
  refine x_iconst C 1 dX0_orders_4 (by decide) ?_
  refine x_icmp_eq C 27 dX0_orders_5 (by decide) (fun c1 => ?_) (fun c1 => ?_)
  · refine x_iconst C 0 dX0_orders_27 (by decide) ?_
    exact x_iret C rfl dX0_orders_28 rfl rfl
  · refine x_aload_n C dX0_orders_8 0 rfl ?_
    refine x_get (v := .int (uC 7 0)) C hwsX00 7 mw_27 0 rfl rfl (by decide) rfl rfl dX0_orders_9 ?_
    refine x_if_ne C 27 dX0_orders_12 (by decide) (fun c2 => ?_) (fun c2 => ?_)
    · refine x_aload_n C dX0_orders_15 0 rfl ?_
      refine x_get (v := .int (uC 3 0)) C hwsX00 3 mw_23 0 rfl rfl (by decide) rfl rfl dX0_orders_16 ?_
      refine x_bipush C 7 dX0_orders_19 (by decide) ?_
      refine x_cNi (As := [.int (uC 3 0), .int 7]) (ws' := wX0 cI cZ cO hC hV hW uC ++ wX4 cI cZ cO hV aV0 aV1 uV ++ wX5 cI cZ cO hW aW0 uW) C C.2.2.2.1.1 mw_36 mw_37 mw_34 hd_X6_outside rfl rfl ⟨Nat.le_of_ble_eq_true rfl, Nat.le_of_ble_eq_true rfl⟩ (c_X6_outside l D cI cZ cO  (uC 3 0) 7 ) [] [.inl 0, .inl 1, .inl 2, .inl 3, .inl 4, .inl 5] trivial rfl ⟨rfl, rfl, rfl, rfl, rfl, rfl, trivial⟩ rfl ⟨rfl, rfl, rfl, rfl, rfl, rfl, trivial⟩ rfl rfl (Nat.le_of_ble_eq_true rfl) (Nat.zero_le _) (Nat.zero_le _) dX0_orders_21 ?_
      refine x_if_eqZ C 29 dX0_orders_24 (by decide) (fun c3 => ?_) (fun c3 => ?_)
      · refine x_iconst C 0 dX0_orders_27 (by decide) ?_
        exact x_iret C rfl dX0_orders_28 rfl rfl
      · refine x_stg C rfl dX0_orders_29 (fun tt hT => ?_)
        refine x_aload_n C dX0_orders_32 0 rfl ?_
        refine x_get (v := .int (uC 3 0)) C hwsX00 3 mw_23 0 rfl rfl (by decide) rfl rfl dX0_orders_33 ?_
        have hst := out_nat 7 (by decide) (g := 7) rfl (by assumption : f_X6_outside (uC 3 0) 7 = false)
        refine x_top (nI (ixn (uC 3 0))) hst.1 ?_
        refine x_tald C hT (ixn (uC 3 0)) rfl (by omega) dX0_orders_36 ?_
        refine x_istore_n (L' := [(1, .int (stg (ixn (uC 3 0)))), (0, .ref hC)]) C dX0_orders_37 (by decide) rfl ?_
        refine x_aload_n C dX0_orders_38 1 rfl ?_
        refine x_get (v := .int (uC 3 0)) C hwsX00 3 mw_23 0 rfl rfl (by decide) rfl rfl dX0_orders_39 ?_
        refine x_iconst C 3 dX0_orders_42 (by decide) ?_
        refine x_join (fun (b5 : Int32) => f_X0_orders_k64 b5) 64 (fun (b5 : Int32) => [(0, .ref hC), (1, .int b5)]) (fun (b5 : Int32) => []) (fun (b5 : Int32) => wX0 cI cZ cO hC hV hW uC ++ wX4 cI cZ cO hV aV0 aV1 uV ++ wX5 cI cZ cO hW aW0 uW) (fun b5 => ?_) _ (fun J6 => ?_)
        · unfold f_X0_orders_k64
          refine x_iload_n C dX0_orders_64 1 rfl ?_
          exact x_iret C rfl dX0_orders_65 rfl rfl
        · refine x_icmp_ne C 64 dX0_orders_43 (by decide) (fun c4 => ?_) (fun c4 => ?_)
          · refine x_iload_n C dX0_orders_46 0 rfl ?_
            refine x_iconst C 1 dX0_orders_47 (by decide) ?_
            refine x_aload_n C dX0_orders_48 1 rfl ?_
            refine x_get (v := .int (uC 5 0)) C hwsX00 5 mw_25 0 rfl rfl (by decide) rfl rfl dX0_orders_49 ?_
            refine x_iconst C 1 dX0_orders_52 (by decide) ?_
            refine x_join (fun (b8 : Int32) => f_X0_orders_k61 uC b8) 61 (fun (b8 : Int32) => [(0, .ref hC), (1, .int (stg (ixn (uC 3 0))))]) (fun (b8 : Int32) => [.int b8, .int 1, .int (stg (ixn (uC 3 0)))]) (fun (b8 : Int32) => wX0 cI cZ cO hC hV hW uC ++ wX4 cI cZ cO hV aV0 aV1 uV ++ wX5 cI cZ cO hW aW0 uW) (fun b8 => ?_) _ (fun J9 => ?_)
            · unfold f_X0_orders_k61
              refine x_ishl C dX0_orders_61 ?_
              refine x_ior C dX0_orders_62 ?_
              refine x_istore_n (L' := [(1, .int ((stg (ixn (uC 3 0))) ||| (1 <<< (b8 &&& 31)))), (0, .ref hC)]) C dX0_orders_63 (by decide) rfl ?_
              refine x_lsub (L' := [(0, .ref hC), (1, .int ((stg (ixn (uC 3 0))) ||| (1 <<< (b8 &&& 31))))]) [1, 0] rfl ?_
              exact J6 ((stg (ixn (uC 3 0))) ||| (1 <<< (b8 &&& 31)))
            · refine x_icmp_ne C 60 dX0_orders_53 (by decide) (fun c7 => ?_) (fun c7 => ?_)
              · refine x_iconst C 3 dX0_orders_56 (by decide) ?_
                refine x_goto C 61 dX0_orders_57 (by decide) ?_
                refine x_lsub (L' := [(0, .ref hC), (1, .int (stg (ixn (uC 3 0))))]) [1, 0] rfl ?_
                exact J9 3
              · refine x_iconst C 4 dX0_orders_60 (by decide) ?_
                refine x_lsub (L' := [(0, .ref hC), (1, .int (stg (ixn (uC 3 0))))]) [1, 0] rfl ?_
                exact J9 4
          · refine x_lsub (L' := [(0, .ref hC), (1, .int (stg (ixn (uC 3 0))))]) [1, 0] rfl ?_
            exact J6 (stg (ixn (uC 3 0)))
    · refine x_iconst C 0 dX0_orders_27 (by decide) ?_
      exact x_iret C rfl dX0_orders_28 rfl rfl

def f_X0_fact (uC : St) (uV : St) (uW : St) (xw : Int32) : Int32 := if xw = 0 then (uC 3 0) else (if xw = 1 then (imn (uC 4 0) 99) else (if xw = 2 then (uC 5 0) else (if xw = 3 then (f_X0_orders uC uV uW) else (if xw = 4 then (uC 7 0) else (if xw = 5 then (uC 6 0) else (if xw = 6 then (uC 8 0) else (-2)))))))
theorem hd_X0_fact : yX0_fact.cls ≠ "java/lang/invoke/MethodHandle" ∧ yX0_fact.cls ≠ "java/lang/invoke/VarHandle" ∧ (parseMethodDescriptor yX0_fact.desc).map (fun d => d.parameters.length) = some 1 := by decide +kernel
set_option maxHeartbeats 4000000 in
set_option maxRecDepth 100000 in
theorem c_X0_fact (l : Launch) (D : va_G) (cI cZ cO : ClassId) (hC hV aV0 aV1 hW aW0 : Nat) (uC : St) (uV : St) (uW : St) (xw : Int32)  : CTi l D (T3 cI cZ cO) yX0_fact (Cond.code yX0_fact cX0_fact 2 (some .int) :: WA) ({ frames := 2, cells := 0, slots := 0, locals := 42 } : Room) [.ref hC, .int xw] (wX0 cI cZ cO hC hV hW uC ++ wX4 cI cZ cO hV aV0 aV1 uV ++ wX5 cI cZ cO hW aW0 uW) ((f_X0_fact uC uV uW xw)) (wX0 cI cZ cO hC hV hW uC ++ wX4 cI cZ cO hV aV0 aV1 uV ++ wX5 cI cZ cO hW aW0 uW) := by
  refine ct_i (K := fun z => z) (t := f_X0_fact uC uV uW xw) (rf := fun o => o) (wf := fun o => wX0 cI cZ cO hC hV hW uC ++ wX4 cI cZ cO hV aV0 aV1 uV ++ wX5 cI cZ cO hW aW0 uW) (own := RX0) (nm := "fact") (L0 := [(0, .ref hC), (1, .int xw)]) (plainFor_of_name (by decide +kernel)) rfl rfl (Nat.le_of_ble_eq_true rfl) rfl ?_
  intro p e s m args below meth c A C
  unfold f_X0_fact
  refine x_iload_n C dX0_fact_0 1 rfl ?_
  refine x_split (fun c1 => ?_) (fun c1 => ?_)
  · refine x_tsI C 0 44 dX0_fact_1 (i_eq c1 (by decide : (0 : Int32).toInt = 0)) (by decide) (by decide) rfl (by decide) ?_
    refine x_aload_n C dX0_fact_44 0 rfl ?_
    refine x_get (v := .int (uC 3 0)) C hwsX00 3 mw_23 0 rfl rfl (by decide) rfl rfl dX0_fact_45 ?_
    exact x_iret C rfl dX0_fact_48 rfl rfl
  · refine x_split (fun c2 => ?_) (fun c2 => ?_)
    · refine x_tsI C 1 49 dX0_fact_1 (i_eq c2 (by decide : (1 : Int32).toInt = 1)) (by decide) (by decide) rfl (by decide) ?_
      refine x_aload_n C dX0_fact_49 0 rfl ?_
      refine x_get (v := .int (uC 4 0)) C hwsX00 4 mw_24 0 rfl rfl (by decide) rfl rfl dX0_fact_50 ?_
      refine x_bipush C 99 dX0_fact_53 (by decide) ?_
      refine x_mmin C mw_39 mw_40 mw_41 mw_42 (Nat.le_of_ble_eq_true rfl) (Nat.le_of_ble_eq_true rfl) (Nat.zero_le _) (Nat.zero_le _) dX0_fact_55 ?_
      exact x_iret C rfl dX0_fact_58 rfl rfl
    · refine x_split (fun c3 => ?_) (fun c3 => ?_)
      · refine x_tsI C 2 59 dX0_fact_1 (i_eq c3 (by decide : (2 : Int32).toInt = 2)) (by decide) (by decide) rfl (by decide) ?_
        refine x_aload_n C dX0_fact_59 0 rfl ?_
        refine x_get (v := .int (uC 5 0)) C hwsX00 5 mw_25 0 rfl rfl (by decide) rfl rfl dX0_fact_60 ?_
        exact x_iret C rfl dX0_fact_63 rfl rfl
      · refine x_split (fun c4 => ?_) (fun c4 => ?_)
        · refine x_tsI C 3 64 dX0_fact_1 (i_eq c4 (by decide : (3 : Int32).toInt = 3)) (by decide) (by decide) rfl (by decide) ?_
          refine x_aload_n C dX0_fact_64 0 rfl ?_
          refine x_cViW (q0 := 0) (As := []) C mw_43 mw_44 mw_45 mw_46 mw_35 hd_X0_orders rfl rfl ⟨Nat.le_of_ble_eq_true rfl, Nat.le_of_ble_eq_true rfl⟩ rfl rfl rfl (c_X0_orders l D cI cZ cO hC hV aV0 aV1 hW aW0 uC uV uW ) rfl rfl (Nat.le_of_ble_eq_true rfl) (Nat.zero_le _) (Nat.zero_le _) dX0_fact_65 ?_
          exact x_iret C rfl dX0_fact_68 rfl rfl
        · refine x_split (fun c5 => ?_) (fun c5 => ?_)
          · refine x_tsI C 4 69 dX0_fact_1 (i_eq c5 (by decide : (4 : Int32).toInt = 4)) (by decide) (by decide) rfl (by decide) ?_
            refine x_aload_n C dX0_fact_69 0 rfl ?_
            refine x_get (v := .int (uC 7 0)) C hwsX00 7 mw_27 0 rfl rfl (by decide) rfl rfl dX0_fact_70 ?_
            exact x_iret C rfl dX0_fact_73 rfl rfl
          · refine x_split (fun c6 => ?_) (fun c6 => ?_)
            · refine x_tsI C 5 74 dX0_fact_1 (i_eq c6 (by decide : (5 : Int32).toInt = 5)) (by decide) (by decide) rfl (by decide) ?_
              refine x_aload_n C dX0_fact_74 0 rfl ?_
              refine x_get (v := .int (uC 6 0)) C hwsX00 6 mw_26 0 rfl rfl (by decide) rfl rfl dX0_fact_75 ?_
              exact x_iret C rfl dX0_fact_78 rfl rfl
            · refine x_split (fun c7 => ?_) (fun c7 => ?_)
              · refine x_tsI C 6 79 dX0_fact_1 (i_eq c7 (by decide : (6 : Int32).toInt = 6)) (by decide) (by decide) rfl (by decide) ?_
                refine x_aload_n C dX0_fact_79 0 rfl ?_
                refine x_get (v := .int (uC 8 0)) C hwsX00 8 mw_28 0 rfl rfl (by decide) rfl rfl dX0_fact_80 ?_
                exact x_iret C rfl dX0_fact_83 rfl rfl
              · refine x_tsO C 84 dX0_fact_1 (by have g0 := i_ne c1 (by decide : (0 : Int32).toInt = 0); have g1 := i_ne c2 (by decide : (1 : Int32).toInt = 1); have g2 := i_ne c3 (by decide : (2 : Int32).toInt = 2); have g3 := i_ne c4 (by decide : (3 : Int32).toInt = 3); have g4 := i_ne c5 (by decide : (4 : Int32).toInt = 4); have g5 := i_ne c6 (by decide : (5 : Int32).toInt = 5); have g6 := i_ne c7 (by decide : (6 : Int32).toInt = 6); omega) (by decide) ?_
                refine x_bipush C (-2) dX0_fact_84 (by decide) ?_
                exact x_iret C rfl dX0_fact_86 rfl rfl

def f_X0_underWay (uC : St) (uV : St) (uW : St) : Bool := if (uC 8 0) = 0 then (if (uC 7 0) = 0 then (if (uC 3 0) = 0 then (if (uV 0 0) = (uC 5 0) then false else true) else true) else false) else false
theorem hd_X0_underWay : yX0_underWay.cls ≠ "java/lang/invoke/MethodHandle" ∧ yX0_underWay.cls ≠ "java/lang/invoke/VarHandle" ∧ (parseMethodDescriptor yX0_underWay.desc).map (fun d => d.parameters.length) = some 0 := by decide +kernel
set_option maxHeartbeats 4000000 in
set_option maxRecDepth 100000 in
theorem c_X0_underWay (l : Launch) (D : va_G) (cI cZ cO : ClassId) (hC hV aV0 aV1 hW aW0 : Nat) (uC : St) (uV : St) (uW : St)  : CTi l D (T3 cI cZ cO) yX0_underWay (Cond.code yX0_underWay cX0_underWay 1 (some .boolean) :: WA) ({ frames := 0, cells := 0, slots := 0, locals := 0 } : Room) [.ref hC] (wX0 cI cZ cO hC hV hW uC ++ wX4 cI cZ cO hV aV0 aV1 uV ++ wX5 cI cZ cO hW aW0 uW) (b2i (f_X0_underWay uC uV uW)) (wX0 cI cZ cO hC hV hW uC ++ wX4 cI cZ cO hV aV0 aV1 uV ++ wX5 cI cZ cO hW aW0 uW) := by
  refine ct_i (K := fun z => z) (t := f_X0_underWay uC uV uW) (rf := fun o => b2i o) (wf := fun o => wX0 cI cZ cO hC hV hW uC ++ wX4 cI cZ cO hV aV0 aV1 uV ++ wX5 cI cZ cO hW aW0 uW) (own := RX0) (nm := "underWay") (L0 := [(0, .ref hC)]) (plainFor_of_name (by decide +kernel)) rfl rfl (Nat.le_of_ble_eq_true rfl) rfl ?_
  intro p e s m args below meth c A C
  unfold f_X0_underWay
  refine x_aload_n C dX0_underWay_0 0 rfl ?_
  refine x_get (v := .int (uC 8 0)) C hwsX00 8 mw_28 0 rfl rfl (by decide) rfl rfl dX0_underWay_1 ?_
  refine x_if_ne C 41 dX0_underWay_4 (by decide) (fun c1 => ?_) (fun c1 => ?_)
  · refine x_aload_n C dX0_underWay_7 0 rfl ?_
    refine x_get (v := .int (uC 7 0)) C hwsX00 7 mw_27 0 rfl rfl (by decide) rfl rfl dX0_underWay_8 ?_
    refine x_if_ne C 41 dX0_underWay_11 (by decide) (fun c2 => ?_) (fun c2 => ?_)
    · refine x_aload_n C dX0_underWay_14 0 rfl ?_
      refine x_get (v := .int (uC 3 0)) C hwsX00 3 mw_23 0 rfl rfl (by decide) rfl rfl dX0_underWay_15 ?_
      refine x_if_ne C 37 dX0_underWay_18 (by decide) (fun c3 => ?_) (fun c3 => ?_)
      · refine x_aload_n C dX0_underWay_21 0 rfl ?_
        refine x_get (v := .ref hV) C hwsX00 1 mw_18 0 rfl rfl (by decide) rfl rfl dX0_underWay_22 ?_
        refine x_get (v := .ref aV0) C hwsX40 0 mw_48 1 rfl rfl (by decide) rfl rfl dX0_underWay_25 ?_
        refine x_iconst C 0 dX0_underWay_28 (by decide) ?_
        refine x_iald C 2 0 rfl rfl 0 rfl (by omega) (by decide) (uV 0 0) rfl dX0_underWay_29 ?_
        refine x_aload_n C dX0_underWay_30 0 rfl ?_
        refine x_get (v := .int (uC 5 0)) C hwsX00 5 mw_25 0 rfl rfl (by decide) rfl rfl dX0_underWay_31 ?_
        refine x_icmp_eq C 41 dX0_underWay_34 (by decide) (fun c4 => ?_) (fun c4 => ?_)
        · refine x_iconst C 0 dX0_underWay_41 (by decide) ?_
          exact x_zret C rfl (by decide) dX0_underWay_42 rfl rfl
        · refine x_iconst C 1 dX0_underWay_37 (by decide) ?_
          refine x_goto C 42 dX0_underWay_38 (by decide) ?_
          exact x_zret C rfl (by decide) dX0_underWay_42 rfl rfl
      · refine x_iconst C 1 dX0_underWay_37 (by decide) ?_
        refine x_goto C 42 dX0_underWay_38 (by decide) ?_
        exact x_zret C rfl (by decide) dX0_underWay_42 rfl rfl
    · refine x_iconst C 0 dX0_underWay_41 (by decide) ?_
      exact x_zret C rfl (by decide) dX0_underWay_42 rfl rfl
  · refine x_iconst C 0 dX0_underWay_41 (by decide) ?_
    exact x_zret C rfl (by decide) dX0_underWay_42 rfl rfl

def f_X0_shows_k92 (b8 : Bool) (b10 : Int32) (b12 : Int32) : Int32 := ((b2i b8) ||| b10) ||| b12
def f_X0_shows_k79 (uC : St) (b8 : Bool) (b10 : Int32) : Int32 := f_X0_shows_k92 b8 b10 (if (uC 7 0) = 0 then 0 else 4)
def f_X0_shows_k70 (uC : St) (b6 : Bool) (b8 : Bool) : Int32 := f_X0_shows_k79 uC b8 (if b6 = true then 2 else 0)
def f_X0_shows_k46 (uC : St) (uV : St) (b6 : Bool) : Int32 := f_X0_shows_k70 uC b6 (if (f_X4_allSeen uV 9) = true then true else false)
def f_X0_shows_k46_2 (uC : St) (uV : St) (b4 : Bool) : Int32 := f_X0_shows_k46 uC uV (if b4 = true then true else (if (f_X4_isSeen uV 11) = true then false else (if (f_X4_isSeen uV 14) = true then false else true)))
def f_X0_shows_k46_3 (uC : St) (uV : St) (b2 : Bool) : Int32 := f_X0_shows_k46_2 uC uV (if b2 = true then true else (if (f_X4_isSeen uV 10) = true then false else (if (f_X4_isSeen uV 13) = true then false else true)))
def f_X0_shows (uC : St) (uV : St) (uW : St) : Int32 := f_X0_shows_k46_3 uC uV (if (f_X4_isSeen uV 9) = true then false else (if (f_X4_isSeen uV 12) = true then false else true))
theorem hd_X0_shows : yX0_shows.cls ≠ "java/lang/invoke/MethodHandle" ∧ yX0_shows.cls ≠ "java/lang/invoke/VarHandle" ∧ (parseMethodDescriptor yX0_shows.desc).map (fun d => d.parameters.length) = some 0 := by decide +kernel
set_option maxHeartbeats 4000000 in
set_option maxRecDepth 100000 in
theorem c_X0_shows (l : Launch) (D : va_G) (cI cZ cO : ClassId) (hC hV aV0 aV1 hW aW0 : Nat) (uC : St) (uV : St) (uW : St)  : CTi l D (T3 cI cZ cO) yX0_shows (Cond.code yX0_shows cX0_shows 3 (some .int) :: WA) ({ frames := 1, cells := 0, slots := 0, locals := 21 } : Room) [.ref hC] (wX0 cI cZ cO hC hV hW uC ++ wX4 cI cZ cO hV aV0 aV1 uV ++ wX5 cI cZ cO hW aW0 uW) ((f_X0_shows uC uV uW)) (wX0 cI cZ cO hC hV hW uC ++ wX4 cI cZ cO hV aV0 aV1 uV ++ wX5 cI cZ cO hW aW0 uW) := by
  refine ct_i (K := fun z => z) (t := f_X0_shows uC uV uW) (rf := fun o => o) (wf := fun o => wX0 cI cZ cO hC hV hW uC ++ wX4 cI cZ cO hV aV0 aV1 uV ++ wX5 cI cZ cO hW aW0 uW) (own := RX0) (nm := "shows") (L0 := [(0, .ref hC)]) (plainFor_of_name (by decide +kernel)) rfl rfl (Nat.le_of_ble_eq_true rfl) rfl ?_
  intro p e s m args below meth c A C
  unfold f_X0_shows
  refine x_iconst C 0 dX0_shows_0 (by decide) ?_
  refine x_istore_n (L' := [(1, .int 0), (0, .ref hC)]) C dX0_shows_1 (by decide) rfl ?_
  refine x_iconst C 0 dX0_shows_2 (by decide) ?_
  refine x_istore_n (L' := [(2, .int 0), (1, .int 0), (0, .ref hC)]) C dX0_shows_3 (by decide) rfl ?_
  refine x_iload_n C dX0_shows_4 0 rfl ?_
  refine x_iconst C 3 dX0_shows_5 (by decide) ?_
  refine x_icmp_ge_f C 53 dX0_shows_6 (by decide) (by decide) ?_
  refine x_iload_n C dX0_shows_9 1 rfl ?_
  refine x_if_ne_f C 41 dX0_shows_10 (by decide) (by decide) ?_
  refine x_aload_n C dX0_shows_13 2 rfl ?_
  refine x_get (v := .ref hV) C hwsX00 1 mw_18 0 rfl rfl (by decide) rfl rfl dX0_shows_14 ?_
  refine x_bipush C 9 dX0_shows_17 (by decide) ?_
  refine x_iload_n C dX0_shows_19 0 rfl ?_
  refine x_iadd C dX0_shows_20 ?_
  refine x_top 9 (by decide) ?_
  refine x_cVi (q0 := 1) (As := [.int 9]) (ws' := wX0 cI cZ cO hC hV hW uC ++ wX4 cI cZ cO hV aV0 aV1 uV ++ wX5 cI cZ cO hW aW0 uW) C mw_52 mw_53 mw_54 mw_17 mw_49 hd_X4_isSeen rfl rfl ⟨Nat.le_of_ble_eq_true rfl, Nat.le_of_ble_eq_true rfl⟩ rfl rfl rfl (c_X4_isSeen l D cI cZ cO hV aV0 aV1 uV 9 (by omega)) [1, 2, 3] [.inl 0, .inr 0, .inr 1, .inr 2, .inl 4, .inl 5] ⟨rfl, rfl, rfl, trivial⟩ rfl ⟨rfl, rfl, rfl, rfl, rfl, rfl, trivial⟩ rfl ⟨rfl, rfl, rfl, rfl, rfl, rfl, trivial⟩ rfl rfl (Nat.le_of_ble_eq_true rfl) (Nat.zero_le _) (Nat.zero_le _) dX0_shows_21 ?_
  refine x_join (fun (b2 : Bool) => f_X0_shows_k46_3 uC uV b2) 46 (fun (b2 : Bool) => [(0, .ref hC), (1, .int 0), (2, .int 0)]) (fun (b2 : Bool) => [.int (b2i b2)]) (fun (b2 : Bool) => wX0 cI cZ cO hC hV hW uC ++ wX4 cI cZ cO hV aV0 aV1 uV ++ wX5 cI cZ cO hW aW0 uW) (fun b2 => ?_) _ (fun J22 => ?_)
  · unfold f_X0_shows_k46_3
    refine x_istore_n (L' := [(1, .int (b2i b2)), (0, .ref hC), (2, .int 0)]) C dX0_shows_46 (by decide) rfl ?_
    refine x_iinc (L' := [(2, .int 1), (1, .int (b2i b2)), (0, .ref hC)]) C 1 dX0_shows_47 2 rfl (by decide) (by decide) rfl ?_
    refine x_goto C 4 dX0_shows_50 (by decide) ?_
    refine x_iload_n C dX0_shows_4 0 rfl ?_
    refine x_iconst C 3 dX0_shows_5 (by decide) ?_
    refine x_icmp_ge_f C 53 dX0_shows_6 (by decide) (by decide) ?_
    refine x_iload_n C dX0_shows_9 1 rfl ?_
    refine x_join (fun (b4 : Bool) => f_X0_shows_k46_2 uC uV b4) 46 (fun (b4 : Bool) => [(0, .ref hC), (1, .int (b2i b2)), (2, .int 1)]) (fun (b4 : Bool) => [.int (b2i b4)]) (fun (b4 : Bool) => wX0 cI cZ cO hC hV hW uC ++ wX4 cI cZ cO hV aV0 aV1 uV ++ wX5 cI cZ cO hW aW0 uW) (fun b4 => ?_) _ (fun J19 => ?_)
    · unfold f_X0_shows_k46_2
      refine x_istore_n (L' := [(1, .int (b2i b4)), (0, .ref hC), (2, .int 1)]) C dX0_shows_46 (by decide) rfl ?_
      refine x_iinc (L' := [(2, .int 2), (1, .int (b2i b4)), (0, .ref hC)]) C 2 dX0_shows_47 2 rfl (by decide) (by decide) rfl ?_
      refine x_goto C 4 dX0_shows_50 (by decide) ?_
      refine x_iload_n C dX0_shows_4 0 rfl ?_
      refine x_iconst C 3 dX0_shows_5 (by decide) ?_
      refine x_icmp_ge_f C 53 dX0_shows_6 (by decide) (by decide) ?_
      refine x_iload_n C dX0_shows_9 1 rfl ?_
      refine x_join (fun (b6 : Bool) => f_X0_shows_k46 uC uV b6) 46 (fun (b6 : Bool) => [(0, .ref hC), (1, .int (b2i b4)), (2, .int 2)]) (fun (b6 : Bool) => [.int (b2i b6)]) (fun (b6 : Bool) => wX0 cI cZ cO hC hV hW uC ++ wX4 cI cZ cO hV aV0 aV1 uV ++ wX5 cI cZ cO hW aW0 uW) (fun b6 => ?_) _ (fun J16 => ?_)
      · unfold f_X0_shows_k46
        refine x_istore_n (L' := [(1, .int (b2i b6)), (0, .ref hC), (2, .int 2)]) C dX0_shows_46 (by decide) rfl ?_
        refine x_iinc (L' := [(2, .int 3), (1, .int (b2i b6)), (0, .ref hC)]) C 3 dX0_shows_47 2 rfl (by decide) (by decide) rfl ?_
        refine x_goto C 4 dX0_shows_50 (by decide) ?_
        refine x_iload_n C dX0_shows_4 0 rfl ?_
        refine x_iconst C 3 dX0_shows_5 (by decide) ?_
        refine x_icmp_ge_t C 53 dX0_shows_6 (by decide) (by decide) ?_
        refine x_aload_n C dX0_shows_53 2 rfl ?_
        refine x_get (v := .ref hV) C hwsX00 1 mw_18 0 rfl rfl (by decide) rfl rfl dX0_shows_54 ?_
        refine x_bipush C 9 dX0_shows_57 (by decide) ?_
        refine x_cVi (q0 := 1) (As := [.int 9]) (ws' := wX0 cI cZ cO hC hV hW uC ++ wX4 cI cZ cO hV aV0 aV1 uV ++ wX5 cI cZ cO hW aW0 uW) C mw_55 mw_56 mw_57 mw_17 mw_50 hd_X4_allSeen rfl rfl ⟨Nat.le_of_ble_eq_true rfl, Nat.le_of_ble_eq_true rfl⟩ rfl rfl rfl (c_X4_allSeen l D cI cZ cO hV aV0 aV1 uV 9 (by omega)) [1, 2, 3] [.inl 0, .inr 0, .inr 1, .inr 2, .inl 4, .inl 5] ⟨rfl, rfl, rfl, trivial⟩ rfl ⟨rfl, rfl, rfl, rfl, rfl, rfl, trivial⟩ rfl ⟨rfl, rfl, rfl, rfl, rfl, rfl, trivial⟩ rfl rfl (Nat.le_of_ble_eq_true rfl) (Nat.zero_le _) (Nat.zero_le _) dX0_shows_59 ?_
        refine x_join (fun (b8 : Bool) => f_X0_shows_k70 uC b6 b8) 70 (fun (b8 : Bool) => [(0, .ref hC), (1, .int (b2i b6)), (2, .int 3)]) (fun (b8 : Bool) => [.int (b2i b8)]) (fun (b8 : Bool) => wX0 cI cZ cO hC hV hW uC ++ wX4 cI cZ cO hV aV0 aV1 uV ++ wX5 cI cZ cO hW aW0 uW) (fun b8 => ?_) _ (fun J15 => ?_)
        · unfold f_X0_shows_k70
          refine x_iload_n C dX0_shows_70 1 rfl ?_
          refine x_join (fun (b10 : Int32) => f_X0_shows_k79 uC b8 b10) 79 (fun (b10 : Int32) => [(0, .ref hC), (1, .int (b2i b6)), (2, .int 3)]) (fun (b10 : Int32) => [.int b10, .int (b2i b8)]) (fun (b10 : Int32) => wX0 cI cZ cO hC hV hW uC ++ wX4 cI cZ cO hV aV0 aV1 uV ++ wX5 cI cZ cO hW aW0 uW) (fun b10 => ?_) _ (fun J14 => ?_)
          · unfold f_X0_shows_k79
            refine x_ior C dX0_shows_79 ?_
            refine x_aload_n C dX0_shows_80 0 rfl ?_
            refine x_get (v := .int (uC 7 0)) C hwsX00 7 mw_27 0 rfl rfl (by decide) rfl rfl dX0_shows_81 ?_
            refine x_join (fun (b12 : Int32) => f_X0_shows_k92 b8 b10 b12) 92 (fun (b12 : Int32) => [(0, .ref hC), (1, .int (b2i b6)), (2, .int 3)]) (fun (b12 : Int32) => [.int b12, .int ((b2i b8) ||| b10)]) (fun (b12 : Int32) => wX0 cI cZ cO hC hV hW uC ++ wX4 cI cZ cO hV aV0 aV1 uV ++ wX5 cI cZ cO hW aW0 uW) (fun b12 => ?_) _ (fun J13 => ?_)
            · unfold f_X0_shows_k92
              refine x_ior C dX0_shows_92 ?_
              exact x_iret C rfl dX0_shows_93 rfl rfl
            · refine x_if_eq C 91 dX0_shows_84 (by decide) (fun c11 => ?_) (fun c11 => ?_)
              · refine x_iconst C 0 dX0_shows_91 (by decide) ?_
                exact J13 0
              · refine x_iconst C 4 dX0_shows_87 (by decide) ?_
                refine x_goto C 92 dX0_shows_88 (by decide) ?_
                exact J13 4
          · refine x_if_eqZ C 78 dX0_shows_71 (by decide) (fun c9 => ?_) (fun c9 => ?_)
            · refine x_iconst C 2 dX0_shows_74 (by decide) ?_
              refine x_goto C 79 dX0_shows_75 (by decide) ?_
              exact J14 2
            · refine x_iconst C 0 dX0_shows_78 (by decide) ?_
              exact J14 0
        · refine x_if_eqZ C 69 dX0_shows_62 (by decide) (fun c7 => ?_) (fun c7 => ?_)
          · refine x_iconst C 1 dX0_shows_65 (by decide) ?_
            refine x_goto C 70 dX0_shows_66 (by decide) ?_
            refine x_lsub (L' := [(0, .ref hC), (1, .int (b2i b6)), (2, .int 3)]) [2, 1, 0] rfl ?_
            exact J15 true
          · refine x_iconst C 0 dX0_shows_69 (by decide) ?_
            refine x_lsub (L' := [(0, .ref hC), (1, .int (b2i b6)), (2, .int 3)]) [2, 1, 0] rfl ?_
            exact J15 false
      · refine x_if_neZ C 41 dX0_shows_10 (by decide) (fun c5 => ?_) (fun c5 => ?_)
        · refine x_iconst C 1 dX0_shows_41 (by decide) ?_
          refine x_goto C 46 dX0_shows_42 (by decide) ?_
          refine x_lsub (L' := [(0, .ref hC), (1, .int (b2i b4)), (2, .int 2)]) [2, 1, 0] rfl ?_
          exact J16 true
        · refine x_aload_n C dX0_shows_13 2 rfl ?_
          refine x_get (v := .ref hV) C hwsX00 1 mw_18 0 rfl rfl (by decide) rfl rfl dX0_shows_14 ?_
          refine x_bipush C 9 dX0_shows_17 (by decide) ?_
          refine x_iload_n C dX0_shows_19 0 rfl ?_
          refine x_iadd C dX0_shows_20 ?_
          refine x_top 11 (by decide) ?_
          refine x_cVi (q0 := 1) (As := [.int 11]) (ws' := wX0 cI cZ cO hC hV hW uC ++ wX4 cI cZ cO hV aV0 aV1 uV ++ wX5 cI cZ cO hW aW0 uW) C mw_52 mw_53 mw_54 mw_17 mw_49 hd_X4_isSeen rfl rfl ⟨Nat.le_of_ble_eq_true rfl, Nat.le_of_ble_eq_true rfl⟩ rfl rfl rfl (c_X4_isSeen l D cI cZ cO hV aV0 aV1 uV 11 (by omega)) [1, 2, 3] [.inl 0, .inr 0, .inr 1, .inr 2, .inl 4, .inl 5] ⟨rfl, rfl, rfl, trivial⟩ rfl ⟨rfl, rfl, rfl, rfl, rfl, rfl, trivial⟩ rfl ⟨rfl, rfl, rfl, rfl, rfl, rfl, trivial⟩ rfl rfl (Nat.le_of_ble_eq_true rfl) (Nat.zero_le _) (Nat.zero_le _) dX0_shows_21 ?_
          refine x_if_neZ C 45 dX0_shows_24 (by decide) (fun c17 => ?_) (fun c17 => ?_)
          · refine x_iconst C 0 dX0_shows_45 (by decide) ?_
            refine x_lsub (L' := [(0, .ref hC), (1, .int (b2i b4)), (2, .int 2)]) [2, 1, 0] rfl ?_
            exact J16 false
          · refine x_aload_n C dX0_shows_27 2 rfl ?_
            refine x_get (v := .ref hV) C hwsX00 1 mw_18 0 rfl rfl (by decide) rfl rfl dX0_shows_28 ?_
            refine x_bipush C 12 dX0_shows_31 (by decide) ?_
            refine x_iload_n C dX0_shows_33 0 rfl ?_
            refine x_iadd C dX0_shows_34 ?_
            refine x_top 14 (by decide) ?_
            refine x_cVi (q0 := 1) (As := [.int 14]) (ws' := wX0 cI cZ cO hC hV hW uC ++ wX4 cI cZ cO hV aV0 aV1 uV ++ wX5 cI cZ cO hW aW0 uW) C mw_52 mw_53 mw_54 mw_17 mw_49 hd_X4_isSeen rfl rfl ⟨Nat.le_of_ble_eq_true rfl, Nat.le_of_ble_eq_true rfl⟩ rfl rfl rfl (c_X4_isSeen l D cI cZ cO hV aV0 aV1 uV 14 (by omega)) [1, 2, 3] [.inl 0, .inr 0, .inr 1, .inr 2, .inl 4, .inl 5] ⟨rfl, rfl, rfl, trivial⟩ rfl ⟨rfl, rfl, rfl, rfl, rfl, rfl, trivial⟩ rfl ⟨rfl, rfl, rfl, rfl, rfl, rfl, trivial⟩ rfl rfl (Nat.le_of_ble_eq_true rfl) (Nat.zero_le _) (Nat.zero_le _) dX0_shows_35 ?_
            refine x_if_neZ C 45 dX0_shows_38 (by decide) (fun c18 => ?_) (fun c18 => ?_)
            · refine x_iconst C 0 dX0_shows_45 (by decide) ?_
              refine x_lsub (L' := [(0, .ref hC), (1, .int (b2i b4)), (2, .int 2)]) [2, 1, 0] rfl ?_
              exact J16 false
            · refine x_iconst C 1 dX0_shows_41 (by decide) ?_
              refine x_goto C 46 dX0_shows_42 (by decide) ?_
              refine x_lsub (L' := [(0, .ref hC), (1, .int (b2i b4)), (2, .int 2)]) [2, 1, 0] rfl ?_
              exact J16 true
    · refine x_if_neZ C 41 dX0_shows_10 (by decide) (fun c3 => ?_) (fun c3 => ?_)
      · refine x_iconst C 1 dX0_shows_41 (by decide) ?_
        refine x_goto C 46 dX0_shows_42 (by decide) ?_
        refine x_lsub (L' := [(0, .ref hC), (1, .int (b2i b2)), (2, .int 1)]) [2, 1, 0] rfl ?_
        exact J19 true
      · refine x_aload_n C dX0_shows_13 2 rfl ?_
        refine x_get (v := .ref hV) C hwsX00 1 mw_18 0 rfl rfl (by decide) rfl rfl dX0_shows_14 ?_
        refine x_bipush C 9 dX0_shows_17 (by decide) ?_
        refine x_iload_n C dX0_shows_19 0 rfl ?_
        refine x_iadd C dX0_shows_20 ?_
        refine x_top 10 (by decide) ?_
        refine x_cVi (q0 := 1) (As := [.int 10]) (ws' := wX0 cI cZ cO hC hV hW uC ++ wX4 cI cZ cO hV aV0 aV1 uV ++ wX5 cI cZ cO hW aW0 uW) C mw_52 mw_53 mw_54 mw_17 mw_49 hd_X4_isSeen rfl rfl ⟨Nat.le_of_ble_eq_true rfl, Nat.le_of_ble_eq_true rfl⟩ rfl rfl rfl (c_X4_isSeen l D cI cZ cO hV aV0 aV1 uV 10 (by omega)) [1, 2, 3] [.inl 0, .inr 0, .inr 1, .inr 2, .inl 4, .inl 5] ⟨rfl, rfl, rfl, trivial⟩ rfl ⟨rfl, rfl, rfl, rfl, rfl, rfl, trivial⟩ rfl ⟨rfl, rfl, rfl, rfl, rfl, rfl, trivial⟩ rfl rfl (Nat.le_of_ble_eq_true rfl) (Nat.zero_le _) (Nat.zero_le _) dX0_shows_21 ?_
        refine x_if_neZ C 45 dX0_shows_24 (by decide) (fun c20 => ?_) (fun c20 => ?_)
        · refine x_iconst C 0 dX0_shows_45 (by decide) ?_
          refine x_lsub (L' := [(0, .ref hC), (1, .int (b2i b2)), (2, .int 1)]) [2, 1, 0] rfl ?_
          exact J19 false
        · refine x_aload_n C dX0_shows_27 2 rfl ?_
          refine x_get (v := .ref hV) C hwsX00 1 mw_18 0 rfl rfl (by decide) rfl rfl dX0_shows_28 ?_
          refine x_bipush C 12 dX0_shows_31 (by decide) ?_
          refine x_iload_n C dX0_shows_33 0 rfl ?_
          refine x_iadd C dX0_shows_34 ?_
          refine x_top 13 (by decide) ?_
          refine x_cVi (q0 := 1) (As := [.int 13]) (ws' := wX0 cI cZ cO hC hV hW uC ++ wX4 cI cZ cO hV aV0 aV1 uV ++ wX5 cI cZ cO hW aW0 uW) C mw_52 mw_53 mw_54 mw_17 mw_49 hd_X4_isSeen rfl rfl ⟨Nat.le_of_ble_eq_true rfl, Nat.le_of_ble_eq_true rfl⟩ rfl rfl rfl (c_X4_isSeen l D cI cZ cO hV aV0 aV1 uV 13 (by omega)) [1, 2, 3] [.inl 0, .inr 0, .inr 1, .inr 2, .inl 4, .inl 5] ⟨rfl, rfl, rfl, trivial⟩ rfl ⟨rfl, rfl, rfl, rfl, rfl, rfl, trivial⟩ rfl ⟨rfl, rfl, rfl, rfl, rfl, rfl, trivial⟩ rfl rfl (Nat.le_of_ble_eq_true rfl) (Nat.zero_le _) (Nat.zero_le _) dX0_shows_35 ?_
          refine x_if_neZ C 45 dX0_shows_38 (by decide) (fun c21 => ?_) (fun c21 => ?_)
          · refine x_iconst C 0 dX0_shows_45 (by decide) ?_
            refine x_lsub (L' := [(0, .ref hC), (1, .int (b2i b2)), (2, .int 1)]) [2, 1, 0] rfl ?_
            exact J19 false
          · refine x_iconst C 1 dX0_shows_41 (by decide) ?_
            refine x_goto C 46 dX0_shows_42 (by decide) ?_
            refine x_lsub (L' := [(0, .ref hC), (1, .int (b2i b2)), (2, .int 1)]) [2, 1, 0] rfl ?_
            exact J19 true
  · refine x_if_neZ C 45 dX0_shows_24 (by decide) (fun c1 => ?_) (fun c1 => ?_)
    · refine x_iconst C 0 dX0_shows_45 (by decide) ?_
      refine x_lsub (L' := [(0, .ref hC), (1, .int 0), (2, .int 0)]) [2, 1, 0] rfl ?_
      exact J22 false
    · refine x_aload_n C dX0_shows_27 2 rfl ?_
      refine x_get (v := .ref hV) C hwsX00 1 mw_18 0 rfl rfl (by decide) rfl rfl dX0_shows_28 ?_
      refine x_bipush C 12 dX0_shows_31 (by decide) ?_
      refine x_iload_n C dX0_shows_33 0 rfl ?_
      refine x_iadd C dX0_shows_34 ?_
      refine x_top 12 (by decide) ?_
      refine x_cVi (q0 := 1) (As := [.int 12]) (ws' := wX0 cI cZ cO hC hV hW uC ++ wX4 cI cZ cO hV aV0 aV1 uV ++ wX5 cI cZ cO hW aW0 uW) C mw_52 mw_53 mw_54 mw_17 mw_49 hd_X4_isSeen rfl rfl ⟨Nat.le_of_ble_eq_true rfl, Nat.le_of_ble_eq_true rfl⟩ rfl rfl rfl (c_X4_isSeen l D cI cZ cO hV aV0 aV1 uV 12 (by omega)) [1, 2, 3] [.inl 0, .inr 0, .inr 1, .inr 2, .inl 4, .inl 5] ⟨rfl, rfl, rfl, trivial⟩ rfl ⟨rfl, rfl, rfl, rfl, rfl, rfl, trivial⟩ rfl ⟨rfl, rfl, rfl, rfl, rfl, rfl, trivial⟩ rfl rfl (Nat.le_of_ble_eq_true rfl) (Nat.zero_le _) (Nat.zero_le _) dX0_shows_35 ?_
      refine x_if_neZ C 45 dX0_shows_38 (by decide) (fun c23 => ?_) (fun c23 => ?_)
      · refine x_iconst C 0 dX0_shows_45 (by decide) ?_
        refine x_lsub (L' := [(0, .ref hC), (1, .int 0), (2, .int 0)]) [2, 1, 0] rfl ?_
        exact J22 false
      · refine x_iconst C 1 dX0_shows_41 (by decide) ?_
        refine x_goto C 46 dX0_shows_42 (by decide) ?_
        refine x_lsub (L' := [(0, .ref hC), (1, .int 0), (2, .int 0)]) [2, 1, 0] rfl ?_
        exact J22 true

def f_X0_come_k13 (xn : Int32) (b2 : St) : St := put (put b2 3 0 xn) 4 0 0
def f_X0_come (uC : St) (uV : St) (uW : St) (xn : Int32) : St := f_X0_come_k13 xn (if (uC 3 0) = 5 then (put uC 6 0 0) else uC)
theorem hd_X0_come : yX0_come.cls ≠ "java/lang/invoke/MethodHandle" ∧ yX0_come.cls ≠ "java/lang/invoke/VarHandle" ∧ (parseMethodDescriptor yX0_come.desc).map (fun d => d.parameters.length) = some 1 := by decide +kernel
set_option maxHeartbeats 4000000 in
set_option maxRecDepth 100000 in
theorem c_X0_come (l : Launch) (D : va_G) (cI cZ cO : ClassId) (hC hV aV0 aV1 hW aW0 : Nat) (uC : St) (uV : St) (uW : St) (xn : Int32)  : CTv l D (T3 cI cZ cO) yX0_come (Cond.code yX0_come cX0_come 2 none :: WA) ({ frames := 0, cells := 0, slots := 0, locals := 0 } : Room) [.ref hC, .int xn] (wX0 cI cZ cO hC hV hW uC ++ wX4 cI cZ cO hV aV0 aV1 uV ++ wX5 cI cZ cO hW aW0 uW) (wX0 cI cZ cO hC hV hW (f_X0_come uC uV uW xn) ++ wX4 cI cZ cO hV aV0 aV1 uV ++ wX5 cI cZ cO hW aW0 uW) := by
  refine ct_v (K := fun z => z) (t := f_X0_come uC uV uW xn) (wf := fun o => wX0 cI cZ cO hC hV hW o ++ wX4 cI cZ cO hV aV0 aV1 uV ++ wX5 cI cZ cO hW aW0 uW) (own := RX0) (nm := "come") (L0 := [(0, .ref hC), (1, .int xn)]) (plainFor_of_name (by decide +kernel)) rfl rfl (Nat.le_of_ble_eq_true rfl) rfl ?_
  intro p e s m args below meth c A C
  unfold f_X0_come
  refine x_aload_n C dX0_come_0 0 rfl ?_
  refine x_get (v := .int (uC 3 0)) C hwsX00 3 mw_23 0 rfl rfl (by decide) rfl rfl dX0_come_1 ?_
  refine x_iconst C 5 dX0_come_4 (by decide) ?_
  refine x_join (fun (b2 : St) => f_X0_come_k13 xn b2) 13 (fun (b2 : St) => [(0, .ref hC), (1, .int xn)]) (fun (b2 : St) => []) (fun (b2 : St) => wX0 cI cZ cO hC hV hW b2 ++ wX4 cI cZ cO hV aV0 aV1 uV ++ wX5 cI cZ cO hW aW0 uW) (fun b2 => ?_) _ (fun J3 => ?_)
  · unfold f_X0_come_k13
    refine x_aload_n C dX0_come_13 0 rfl ?_
    refine x_iload_n C dX0_come_14 1 rfl ?_
    refine x_put (ws' := wX0 cI cZ cO hC hV hW (put b2 3 0 xn) ++ wX4 cI cZ cO hV aV0 aV1 uV ++ wX5 cI cZ cO hW aW0 uW) C hwsX00 tyX0 tyX0_ok nmX0 3 mw_23 0 rfl rfl (by decide) rfl rfl rfl rfl (Nat.le_of_ble_eq_true rfl) dX0_come_15 rfl ?_
    refine x_aload_n C dX0_come_18 0 rfl ?_
    refine x_iconst C 0 dX0_come_19 (by decide) ?_
    refine x_put (ws' := wX0 cI cZ cO hC hV hW (put (put b2 3 0 xn) 4 0 0) ++ wX4 cI cZ cO hV aV0 aV1 uV ++ wX5 cI cZ cO hW aW0 uW) C hwsX00 tyX0 tyX0_ok nmX0 4 mw_24 0 rfl rfl (by decide) rfl rfl rfl rfl (Nat.le_of_ble_eq_true rfl) dX0_come_20 rfl ?_
    exact x_vret C rfl dX0_come_23 rfl
  · refine x_icmp_ne C 13 dX0_come_5 (by decide) (fun c1 => ?_) (fun c1 => ?_)
    · refine x_aload_n C dX0_come_8 0 rfl ?_
      refine x_iconst C 0 dX0_come_9 (by decide) ?_
      refine x_put (ws' := wX0 cI cZ cO hC hV hW (put uC 6 0 0) ++ wX4 cI cZ cO hV aV0 aV1 uV ++ wX5 cI cZ cO hW aW0 uW) C hwsX00 tyX0 tyX0_ok nmX0 6 mw_26 0 rfl rfl (by decide) rfl rfl rfl rfl (Nat.le_of_ble_eq_true rfl) dX0_come_10 rfl ?_
      exact J3 (put uC 6 0 0)
    · exact J3 uC

def f_X0_turn (uC : St) (uV : St) (uW : St) : Int32 × St := if (uC 3 0) = 0 then (1, put uC 5 0 (uV 0 0)) else (if (uC 3 0) = 1 then (uC 3 0, put uC 5 0 (uV 0 0)) else (if (uC 3 0) = 2 then (uC 3 0, put uC 5 0 (uV 0 0)) else (if (uC 3 0) = 3 then (4, put uC 5 0 (uV 0 0)) else (if (uC 3 0) = 4 then (uC 3 0, put uC 5 0 (uV 0 0)) else (if (uC 3 0) = 5 then (5, put (put uC 5 0 (uV 0 0)) 6 0 1) else (if (uC 3 0) = 6 then (5, put (put uC 5 0 (uV 0 0)) 6 0 1) else (if (uC 3 0) = 7 then (5, put (put uC 5 0 (uV 0 0)) 6 0 1) else (uC 3 0, put uC 5 0 (uV 0 0)))))))))
theorem hd_X0_turn : yX0_turn.cls ≠ "java/lang/invoke/MethodHandle" ∧ yX0_turn.cls ≠ "java/lang/invoke/VarHandle" ∧ (parseMethodDescriptor yX0_turn.desc).map (fun d => d.parameters.length) = some 0 := by decide +kernel
set_option maxHeartbeats 4000000 in
set_option maxRecDepth 100000 in
theorem c_X0_turn (l : Launch) (D : va_G) (cI cZ cO : ClassId) (hC hV aV0 aV1 hW aW0 : Nat) (uC : St) (uV : St) (uW : St)  : CTi l D (T3 cI cZ cO) yX0_turn (Cond.code yX0_turn cX0_turn 1 (some .int) :: WA) ({ frames := 0, cells := 0, slots := 0, locals := 0 } : Room) [.ref hC] (wX0 cI cZ cO hC hV hW uC ++ wX4 cI cZ cO hV aV0 aV1 uV ++ wX5 cI cZ cO hW aW0 uW) ((f_X0_turn uC uV uW).1) (wX0 cI cZ cO hC hV hW (f_X0_turn uC uV uW).2 ++ wX4 cI cZ cO hV aV0 aV1 uV ++ wX5 cI cZ cO hW aW0 uW) := by
  refine ct_i (K := fun z => z) (t := f_X0_turn uC uV uW) (rf := fun o => o.1) (wf := fun o => wX0 cI cZ cO hC hV hW o.2 ++ wX4 cI cZ cO hV aV0 aV1 uV ++ wX5 cI cZ cO hW aW0 uW) (own := RX0) (nm := "turn") (L0 := [(0, .ref hC)]) (plainFor_of_name (by decide +kernel)) rfl rfl (Nat.le_of_ble_eq_true rfl) rfl ?_
  intro p e s m args below meth c A C
  unfold f_X0_turn
  refine x_aload_n C dX0_turn_0 0 rfl ?_
  refine x_aload_n C dX0_turn_1 0 rfl ?_
  refine x_get (v := .ref hV) C hwsX00 1 mw_18 0 rfl rfl (by decide) rfl rfl dX0_turn_2 ?_
  refine x_get (v := .ref aV0) C hwsX40 0 mw_48 1 rfl rfl (by decide) rfl rfl dX0_turn_5 ?_
  refine x_iconst C 0 dX0_turn_8 (by decide) ?_
  refine x_iald C 2 0 rfl rfl 0 rfl (by omega) (by decide) (uV 0 0) rfl dX0_turn_9 ?_
  refine x_put (ws' := wX0 cI cZ cO hC hV hW (put uC 5 0 (uV 0 0)) ++ wX4 cI cZ cO hV aV0 aV1 uV ++ wX5 cI cZ cO hW aW0 uW) C hwsX00 tyX0 tyX0_ok nmX0 5 mw_25 0 rfl rfl (by decide) rfl rfl rfl rfl (Nat.le_of_ble_eq_true rfl) dX0_turn_10 rfl ?_
  refine x_aload_n C dX0_turn_13 0 rfl ?_
  refine x_get (v := .int (uC 3 0)) C hwsX00 3 mw_23 0 rfl rfl (by decide) rfl rfl dX0_turn_14 ?_
  refine x_split (fun c1 => ?_) (fun c1 => ?_)
  · refine x_tsI C 0 64 dX0_turn_17 (i_eq c1 (by decide : (0 : Int32).toInt = 0)) (by decide) (by decide) rfl (by decide) ?_
    refine x_iconst C 1 dX0_turn_64 (by decide) ?_
    exact x_iret C rfl dX0_turn_65 rfl rfl
  · refine x_split (fun c2 => ?_) (fun c2 => ?_)
    · refine x_tsI C 1 75 dX0_turn_17 (i_eq c2 (by decide : (1 : Int32).toInt = 1)) (by decide) (by decide) rfl (by decide) ?_
      refine x_aload_n C dX0_turn_75 0 rfl ?_
      refine x_get (v := .int (uC 3 0)) C hwsX00 3 mw_23 0 rfl rfl (by decide) rfl rfl dX0_turn_76 ?_
      exact x_iret C rfl dX0_turn_79 rfl rfl
    · refine x_split (fun c3 => ?_) (fun c3 => ?_)
      · refine x_tsI C 2 75 dX0_turn_17 (i_eq c3 (by decide : (2 : Int32).toInt = 2)) (by decide) (by decide) rfl (by decide) ?_
        refine x_aload_n C dX0_turn_75 0 rfl ?_
        refine x_get (v := .int (uC 3 0)) C hwsX00 3 mw_23 0 rfl rfl (by decide) rfl rfl dX0_turn_76 ?_
        exact x_iret C rfl dX0_turn_79 rfl rfl
      · refine x_split (fun c4 => ?_) (fun c4 => ?_)
        · refine x_tsI C 3 66 dX0_turn_17 (i_eq c4 (by decide : (3 : Int32).toInt = 3)) (by decide) (by decide) rfl (by decide) ?_
          refine x_iconst C 4 dX0_turn_66 (by decide) ?_
          exact x_iret C rfl dX0_turn_67 rfl rfl
        · refine x_split (fun c5 => ?_) (fun c5 => ?_)
          · refine x_tsI C 4 75 dX0_turn_17 (i_eq c5 (by decide : (4 : Int32).toInt = 4)) (by decide) (by decide) rfl (by decide) ?_
            refine x_aload_n C dX0_turn_75 0 rfl ?_
            refine x_get (v := .int (uC 3 0)) C hwsX00 3 mw_23 0 rfl rfl (by decide) rfl rfl dX0_turn_76 ?_
            exact x_iret C rfl dX0_turn_79 rfl rfl
          · refine x_split (fun c6 => ?_) (fun c6 => ?_)
            · refine x_tsI C 5 68 dX0_turn_17 (i_eq c6 (by decide : (5 : Int32).toInt = 5)) (by decide) (by decide) rfl (by decide) ?_
              refine x_aload_n C dX0_turn_68 0 rfl ?_
              refine x_iconst C 1 dX0_turn_69 (by decide) ?_
              refine x_put (ws' := wX0 cI cZ cO hC hV hW (put (put uC 5 0 (uV 0 0)) 6 0 1) ++ wX4 cI cZ cO hV aV0 aV1 uV ++ wX5 cI cZ cO hW aW0 uW) C hwsX00 tyX0 tyX0_ok nmX0 6 mw_26 0 rfl rfl (by decide) rfl rfl rfl rfl (Nat.le_of_ble_eq_true rfl) dX0_turn_70 rfl ?_
              refine x_iconst C 5 dX0_turn_73 (by decide) ?_
              exact x_iret C rfl dX0_turn_74 rfl rfl
            · refine x_split (fun c7 => ?_) (fun c7 => ?_)
              · refine x_tsI C 6 68 dX0_turn_17 (i_eq c7 (by decide : (6 : Int32).toInt = 6)) (by decide) (by decide) rfl (by decide) ?_
                refine x_aload_n C dX0_turn_68 0 rfl ?_
                refine x_iconst C 1 dX0_turn_69 (by decide) ?_
                refine x_put (ws' := wX0 cI cZ cO hC hV hW (put (put uC 5 0 (uV 0 0)) 6 0 1) ++ wX4 cI cZ cO hV aV0 aV1 uV ++ wX5 cI cZ cO hW aW0 uW) C hwsX00 tyX0 tyX0_ok nmX0 6 mw_26 0 rfl rfl (by decide) rfl rfl rfl rfl (Nat.le_of_ble_eq_true rfl) dX0_turn_70 rfl ?_
                refine x_iconst C 5 dX0_turn_73 (by decide) ?_
                exact x_iret C rfl dX0_turn_74 rfl rfl
              · refine x_split (fun c8 => ?_) (fun c8 => ?_)
                · refine x_tsI C 7 68 dX0_turn_17 (i_eq c8 (by decide : (7 : Int32).toInt = 7)) (by decide) (by decide) rfl (by decide) ?_
                  refine x_aload_n C dX0_turn_68 0 rfl ?_
                  refine x_iconst C 1 dX0_turn_69 (by decide) ?_
                  refine x_put (ws' := wX0 cI cZ cO hC hV hW (put (put uC 5 0 (uV 0 0)) 6 0 1) ++ wX4 cI cZ cO hV aV0 aV1 uV ++ wX5 cI cZ cO hW aW0 uW) C hwsX00 tyX0 tyX0_ok nmX0 6 mw_26 0 rfl rfl (by decide) rfl rfl rfl rfl (Nat.le_of_ble_eq_true rfl) dX0_turn_70 rfl ?_
                  refine x_iconst C 5 dX0_turn_73 (by decide) ?_
                  exact x_iret C rfl dX0_turn_74 rfl rfl
                · refine x_tsO C 75 dX0_turn_17 (by have g0 := i_ne c1 (by decide : (0 : Int32).toInt = 0); have g1 := i_ne c2 (by decide : (1 : Int32).toInt = 1); have g2 := i_ne c3 (by decide : (2 : Int32).toInt = 2); have g3 := i_ne c4 (by decide : (3 : Int32).toInt = 3); have g4 := i_ne c5 (by decide : (4 : Int32).toInt = 4); have g5 := i_ne c6 (by decide : (5 : Int32).toInt = 5); have g6 := i_ne c7 (by decide : (6 : Int32).toInt = 6); have g7 := i_ne c8 (by decide : (7 : Int32).toInt = 7); omega) (by decide) ?_
                  refine x_aload_n C dX0_turn_75 0 rfl ?_
                  refine x_get (v := .int (uC 3 0)) C hwsX00 3 mw_23 0 rfl rfl (by decide) rfl rfl dX0_turn_76 ?_
                  exact x_iret C rfl dX0_turn_79 rfl rfl

def f_X0_gearsThere (uC : St) (uV : St) (uW : St) : Bool := if (uC 5 0) = 1 then (f_X4_allSeen uV 9) else (f_X4_allSeen uV 12)
theorem hd_X0_gearsThere : yX0_gearsThere.cls ≠ "java/lang/invoke/MethodHandle" ∧ yX0_gearsThere.cls ≠ "java/lang/invoke/VarHandle" ∧ (parseMethodDescriptor yX0_gearsThere.desc).map (fun d => d.parameters.length) = some 0 := by decide +kernel
set_option maxHeartbeats 4000000 in
set_option maxRecDepth 100000 in
theorem c_X0_gearsThere (l : Launch) (D : va_G) (cI cZ cO : ClassId) (hC hV aV0 aV1 hW aW0 : Nat) (uC : St) (uV : St) (uW : St)  : CTi l D (T3 cI cZ cO) yX0_gearsThere (Cond.code yX0_gearsThere cX0_gearsThere 1 (some .boolean) :: WA) ({ frames := 1, cells := 0, slots := 0, locals := 21 } : Room) [.ref hC] (wX0 cI cZ cO hC hV hW uC ++ wX4 cI cZ cO hV aV0 aV1 uV ++ wX5 cI cZ cO hW aW0 uW) (b2i (f_X0_gearsThere uC uV uW)) (wX0 cI cZ cO hC hV hW uC ++ wX4 cI cZ cO hV aV0 aV1 uV ++ wX5 cI cZ cO hW aW0 uW) := by
  refine ct_i (K := fun z => z) (t := f_X0_gearsThere uC uV uW) (rf := fun o => b2i o) (wf := fun o => wX0 cI cZ cO hC hV hW uC ++ wX4 cI cZ cO hV aV0 aV1 uV ++ wX5 cI cZ cO hW aW0 uW) (own := RX0) (nm := "gearsThere") (L0 := [(0, .ref hC)]) (plainFor_of_name (by decide +kernel)) rfl rfl (Nat.le_of_ble_eq_true rfl) rfl ?_
  intro p e s m args below meth c A C
  unfold f_X0_gearsThere
  refine x_aload_n C dX0_gearsThere_0 0 rfl ?_
  refine x_get (v := .ref hV) C hwsX00 1 mw_18 0 rfl rfl (by decide) rfl rfl dX0_gearsThere_1 ?_
  refine x_aload_n C dX0_gearsThere_4 0 rfl ?_
  refine x_get (v := .int (uC 5 0)) C hwsX00 5 mw_25 0 rfl rfl (by decide) rfl rfl dX0_gearsThere_5 ?_
  refine x_iconst C 1 dX0_gearsThere_8 (by decide) ?_
  refine x_icmp_ne C 17 dX0_gearsThere_9 (by decide) (fun c1 => ?_) (fun c1 => ?_)
  · refine x_bipush C 9 dX0_gearsThere_12 (by decide) ?_
    refine x_goto C 19 dX0_gearsThere_14 (by decide) ?_
    refine x_cVi (q0 := 1) (As := [.int 9]) (ws' := wX0 cI cZ cO hC hV hW uC ++ wX4 cI cZ cO hV aV0 aV1 uV ++ wX5 cI cZ cO hW aW0 uW) C mw_55 mw_56 mw_57 mw_17 mw_50 hd_X4_allSeen rfl rfl ⟨Nat.le_of_ble_eq_true rfl, Nat.le_of_ble_eq_true rfl⟩ rfl rfl rfl (c_X4_allSeen l D cI cZ cO hV aV0 aV1 uV 9 (by omega)) [1, 2, 3] [.inl 0, .inr 0, .inr 1, .inr 2, .inl 4, .inl 5] ⟨rfl, rfl, rfl, trivial⟩ rfl ⟨rfl, rfl, rfl, rfl, rfl, rfl, trivial⟩ rfl ⟨rfl, rfl, rfl, rfl, rfl, rfl, trivial⟩ rfl rfl (Nat.le_of_ble_eq_true rfl) (Nat.zero_le _) (Nat.zero_le _) dX0_gearsThere_19 ?_
    exact x_zret C rfl (nz_b _) dX0_gearsThere_22 rfl rfl
  · refine x_bipush C 12 dX0_gearsThere_17 (by decide) ?_
    refine x_cVi (q0 := 1) (As := [.int 12]) (ws' := wX0 cI cZ cO hC hV hW uC ++ wX4 cI cZ cO hV aV0 aV1 uV ++ wX5 cI cZ cO hW aW0 uW) C mw_55 mw_56 mw_57 mw_17 mw_50 hd_X4_allSeen rfl rfl ⟨Nat.le_of_ble_eq_true rfl, Nat.le_of_ble_eq_true rfl⟩ rfl rfl rfl (c_X4_allSeen l D cI cZ cO hV aV0 aV1 uV 12 (by omega)) [1, 2, 3] [.inl 0, .inr 0, .inr 1, .inr 2, .inl 4, .inl 5] ⟨rfl, rfl, rfl, trivial⟩ rfl ⟨rfl, rfl, rfl, rfl, rfl, rfl, trivial⟩ rfl ⟨rfl, rfl, rfl, rfl, rfl, rfl, trivial⟩ rfl rfl (Nat.le_of_ble_eq_true rfl) (Nat.zero_le _) (Nat.zero_le _) dX0_gearsThere_19 ?_
    exact x_zret C rfl (nz_b _) dX0_gearsThere_22 rfl rfl

def f_X0_gearsMayGo (uC : St) (uV : St) (uW : St) : Bool := if (f_X0_gearsThere uC uV uW) = true then false else (if (uC 5 0) = 1 then true else (if (f_X4_someSeen uV 15) = true then false else true))
theorem hd_X0_gearsMayGo : yX0_gearsMayGo.cls ≠ "java/lang/invoke/MethodHandle" ∧ yX0_gearsMayGo.cls ≠ "java/lang/invoke/VarHandle" ∧ (parseMethodDescriptor yX0_gearsMayGo.desc).map (fun d => d.parameters.length) = some 0 := by decide +kernel
set_option maxHeartbeats 4000000 in
set_option maxRecDepth 100000 in
theorem c_X0_gearsMayGo (l : Launch) (D : va_G) (cI cZ cO : ClassId) (hC hV aV0 aV1 hW aW0 : Nat) (uC : St) (uV : St) (uW : St)  : CTi l D (T3 cI cZ cO) yX0_gearsMayGo (Cond.code yX0_gearsMayGo cX0_gearsMayGo 1 (some .boolean) :: WA) ({ frames := 2, cells := 0, slots := 0, locals := 41 } : Room) [.ref hC] (wX0 cI cZ cO hC hV hW uC ++ wX4 cI cZ cO hV aV0 aV1 uV ++ wX5 cI cZ cO hW aW0 uW) (b2i (f_X0_gearsMayGo uC uV uW)) (wX0 cI cZ cO hC hV hW uC ++ wX4 cI cZ cO hV aV0 aV1 uV ++ wX5 cI cZ cO hW aW0 uW) := by
  refine ct_i (K := fun z => z) (t := f_X0_gearsMayGo uC uV uW) (rf := fun o => b2i o) (wf := fun o => wX0 cI cZ cO hC hV hW uC ++ wX4 cI cZ cO hV aV0 aV1 uV ++ wX5 cI cZ cO hW aW0 uW) (own := RX0) (nm := "gearsMayGo") (L0 := [(0, .ref hC)]) (plainFor_of_name (by decide +kernel)) rfl rfl (Nat.le_of_ble_eq_true rfl) rfl ?_
  intro p e s m args below meth c A C
  unfold f_X0_gearsMayGo
  refine x_aload_n C dX0_gearsMayGo_0 0 rfl ?_
  refine x_cViW (q0 := 0) (As := []) C mw_87 mw_88 mw_89 mw_46 mw_84 hd_X0_gearsThere rfl rfl ⟨Nat.le_of_ble_eq_true rfl, Nat.le_of_ble_eq_true rfl⟩ rfl rfl rfl (c_X0_gearsThere l D cI cZ cO hC hV aV0 aV1 hW aW0 uC uV uW ) rfl rfl (Nat.le_of_ble_eq_true rfl) (Nat.zero_le _) (Nat.zero_le _) dX0_gearsMayGo_1 ?_
  refine x_if_neZ C 31 dX0_gearsMayGo_4 (by decide) (fun c1 => ?_) (fun c1 => ?_)
  · refine x_iconst C 0 dX0_gearsMayGo_31 (by decide) ?_
    exact x_zret C rfl (by decide) dX0_gearsMayGo_32 rfl rfl
  · refine x_aload_n C dX0_gearsMayGo_7 0 rfl ?_
    refine x_get (v := .int (uC 5 0)) C hwsX00 5 mw_25 0 rfl rfl (by decide) rfl rfl dX0_gearsMayGo_8 ?_
    refine x_iconst C 1 dX0_gearsMayGo_11 (by decide) ?_
    refine x_icmp_eq C 27 dX0_gearsMayGo_12 (by decide) (fun c2 => ?_) (fun c2 => ?_)
    · refine x_iconst C 1 dX0_gearsMayGo_27 (by decide) ?_
      refine x_goto C 32 dX0_gearsMayGo_28 (by decide) ?_
      exact x_zret C rfl (by decide) dX0_gearsMayGo_32 rfl rfl
    · refine x_aload_n C dX0_gearsMayGo_15 0 rfl ?_
      refine x_get (v := .ref hV) C hwsX00 1 mw_18 0 rfl rfl (by decide) rfl rfl dX0_gearsMayGo_16 ?_
      refine x_bipush C 15 dX0_gearsMayGo_19 (by decide) ?_
      refine x_cVi (q0 := 1) (As := [.int 15]) (ws' := wX0 cI cZ cO hC hV hW uC ++ wX4 cI cZ cO hV aV0 aV1 uV ++ wX5 cI cZ cO hW aW0 uW) C mw_90 mw_91 mw_92 mw_17 mw_85 hd_X4_someSeen rfl rfl ⟨Nat.le_of_ble_eq_true rfl, Nat.le_of_ble_eq_true rfl⟩ rfl rfl rfl (c_X4_someSeen l D cI cZ cO hV aV0 aV1 uV 15 (by omega)) [1, 2, 3] [.inl 0, .inr 0, .inr 1, .inr 2, .inl 4, .inl 5] ⟨rfl, rfl, rfl, trivial⟩ rfl ⟨rfl, rfl, rfl, rfl, rfl, rfl, trivial⟩ rfl ⟨rfl, rfl, rfl, rfl, rfl, rfl, trivial⟩ rfl rfl (Nat.le_of_ble_eq_true rfl) (Nat.zero_le _) (Nat.zero_le _) dX0_gearsMayGo_21 ?_
      refine x_if_neZ C 31 dX0_gearsMayGo_24 (by decide) (fun c3 => ?_) (fun c3 => ?_)
      · refine x_iconst C 0 dX0_gearsMayGo_31 (by decide) ?_
        exact x_zret C rfl (by decide) dX0_gearsMayGo_32 rfl rfl
      · refine x_iconst C 1 dX0_gearsMayGo_27 (by decide) ?_
        refine x_goto C 32 dX0_gearsMayGo_28 (by decide) ?_
        exact x_zret C rfl (by decide) dX0_gearsMayGo_32 rfl rfl

def f_X0_nextStage (uC : St) (uV : St) (uW : St) : Int32 := if (uC 3 0) = 1 then (if (uC 4 0) < 2 then 1 else 2) else (if (uC 3 0) = 2 then (if (f_X4_allSeen uV 6) = true then 4 else 2) else (if (uC 3 0) = 3 then (if (f_X0_gearsThere uC uV uW) = true then 4 else 3) else (if (uC 3 0) = 4 then (if (f_X0_gearsMayGo uC uV uW) = true then 3 else 5) else (if (uC 3 0) = 5 then (if (uC 6 0) = 1 then 2 else 6) else (if (uC 3 0) = 6 then (if (f_X4_allSeen uV 3) = true then 7 else 6) else (if (uC 3 0) = 7 then (if (uC 4 0) < 10 then 7 else 0) else (uC 3 0)))))))
theorem hd_X0_nextStage : yX0_nextStage.cls ≠ "java/lang/invoke/MethodHandle" ∧ yX0_nextStage.cls ≠ "java/lang/invoke/VarHandle" ∧ (parseMethodDescriptor yX0_nextStage.desc).map (fun d => d.parameters.length) = some 0 := by decide +kernel
set_option maxHeartbeats 4000000 in
set_option maxRecDepth 100000 in
theorem c_X0_nextStage (l : Launch) (D : va_G) (cI cZ cO : ClassId) (hC hV aV0 aV1 hW aW0 : Nat) (uC : St) (uV : St) (uW : St)  : CTi l D (T3 cI cZ cO) yX0_nextStage (Cond.code yX0_nextStage cX0_nextStage 1 (some .int) :: WA) ({ frames := 3, cells := 0, slots := 0, locals := 61 } : Room) [.ref hC] (wX0 cI cZ cO hC hV hW uC ++ wX4 cI cZ cO hV aV0 aV1 uV ++ wX5 cI cZ cO hW aW0 uW) ((f_X0_nextStage uC uV uW)) (wX0 cI cZ cO hC hV hW uC ++ wX4 cI cZ cO hV aV0 aV1 uV ++ wX5 cI cZ cO hW aW0 uW) := by
  refine ct_i (K := fun z => z) (t := f_X0_nextStage uC uV uW) (rf := fun o => o) (wf := fun o => wX0 cI cZ cO hC hV hW uC ++ wX4 cI cZ cO hV aV0 aV1 uV ++ wX5 cI cZ cO hW aW0 uW) (own := RX0) (nm := "nextStage") (L0 := [(0, .ref hC)]) (plainFor_of_name (by decide +kernel)) rfl rfl (Nat.le_of_ble_eq_true rfl) rfl ?_
  intro p e s m args below meth c A C
  unfold f_X0_nextStage
  refine x_aload_n C dX0_nextStage_0 0 rfl ?_
  refine x_get (v := .int (uC 3 0)) C hwsX00 3 mw_23 0 rfl rfl (by decide) rfl rfl dX0_nextStage_1 ?_
  refine x_split (fun c1 => ?_) (fun c1 => ?_)
  · refine x_tsI C 1 48 dX0_nextStage_4 (i_eq c1 (by decide : (1 : Int32).toInt = 1)) (by decide) (by decide) rfl (by decide) ?_
    refine x_aload_n C dX0_nextStage_48 0 rfl ?_
    refine x_get (v := .int (uC 4 0)) C hwsX00 4 mw_24 0 rfl rfl (by decide) rfl rfl dX0_nextStage_49 ?_
    refine x_iconst C 2 dX0_nextStage_52 (by decide) ?_
    refine x_icmp_lt C 60 dX0_nextStage_53 (by decide) (fun c8 => ?_) (fun c8 => ?_)
    · refine x_iconst C 1 dX0_nextStage_60 (by decide) ?_
      exact x_iret C rfl dX0_nextStage_61 rfl rfl
    · refine x_iconst C 2 dX0_nextStage_56 (by decide) ?_
      refine x_goto C 61 dX0_nextStage_57 (by decide) ?_
      exact x_iret C rfl dX0_nextStage_61 rfl rfl
  · refine x_split (fun c2 => ?_) (fun c2 => ?_)
    · refine x_tsI C 2 62 dX0_nextStage_4 (i_eq c2 (by decide : (2 : Int32).toInt = 2)) (by decide) (by decide) rfl (by decide) ?_
      refine x_aload_n C dX0_nextStage_62 0 rfl ?_
      refine x_get (v := .ref hV) C hwsX00 1 mw_18 0 rfl rfl (by decide) rfl rfl dX0_nextStage_63 ?_
      refine x_bipush C 6 dX0_nextStage_66 (by decide) ?_
      refine x_cVi (q0 := 1) (As := [.int 6]) (ws' := wX0 cI cZ cO hC hV hW uC ++ wX4 cI cZ cO hV aV0 aV1 uV ++ wX5 cI cZ cO hW aW0 uW) C mw_55 mw_56 mw_57 mw_17 mw_50 hd_X4_allSeen rfl rfl ⟨Nat.le_of_ble_eq_true rfl, Nat.le_of_ble_eq_true rfl⟩ rfl rfl rfl (c_X4_allSeen l D cI cZ cO hV aV0 aV1 uV 6 (by omega)) [1, 2, 3] [.inl 0, .inr 0, .inr 1, .inr 2, .inl 4, .inl 5] ⟨rfl, rfl, rfl, trivial⟩ rfl ⟨rfl, rfl, rfl, rfl, rfl, rfl, trivial⟩ rfl ⟨rfl, rfl, rfl, rfl, rfl, rfl, trivial⟩ rfl rfl (Nat.le_of_ble_eq_true rfl) (Nat.zero_le _) (Nat.zero_le _) dX0_nextStage_68 ?_
      refine x_if_eqZ C 78 dX0_nextStage_71 (by decide) (fun c9 => ?_) (fun c9 => ?_)
      · refine x_iconst C 4 dX0_nextStage_74 (by decide) ?_
        refine x_goto C 79 dX0_nextStage_75 (by decide) ?_
        exact x_iret C rfl dX0_nextStage_79 rfl rfl
      · refine x_iconst C 2 dX0_nextStage_78 (by decide) ?_
        exact x_iret C rfl dX0_nextStage_79 rfl rfl
    · refine x_split (fun c3 => ?_) (fun c3 => ?_)
      · refine x_tsI C 3 80 dX0_nextStage_4 (i_eq c3 (by decide : (3 : Int32).toInt = 3)) (by decide) (by decide) rfl (by decide) ?_
        refine x_aload_n C dX0_nextStage_80 0 rfl ?_
        refine x_cViW (q0 := 0) (As := []) C mw_87 mw_88 mw_89 mw_46 mw_84 hd_X0_gearsThere rfl rfl ⟨Nat.le_of_ble_eq_true rfl, Nat.le_of_ble_eq_true rfl⟩ rfl rfl rfl (c_X0_gearsThere l D cI cZ cO hC hV aV0 aV1 hW aW0 uC uV uW ) rfl rfl (Nat.le_of_ble_eq_true rfl) (Nat.zero_le _) (Nat.zero_le _) dX0_nextStage_81 ?_
        refine x_if_eqZ C 91 dX0_nextStage_84 (by decide) (fun c10 => ?_) (fun c10 => ?_)
        · refine x_iconst C 4 dX0_nextStage_87 (by decide) ?_
          refine x_goto C 92 dX0_nextStage_88 (by decide) ?_
          exact x_iret C rfl dX0_nextStage_92 rfl rfl
        · refine x_iconst C 3 dX0_nextStage_91 (by decide) ?_
          exact x_iret C rfl dX0_nextStage_92 rfl rfl
      · refine x_split (fun c4 => ?_) (fun c4 => ?_)
        · refine x_tsI C 4 93 dX0_nextStage_4 (i_eq c4 (by decide : (4 : Int32).toInt = 4)) (by decide) (by decide) rfl (by decide) ?_
          refine x_aload_n C dX0_nextStage_93 0 rfl ?_
          refine x_cViW (q0 := 0) (As := []) C mw_94 mw_95 mw_96 mw_46 mw_86 hd_X0_gearsMayGo rfl rfl ⟨Nat.le_of_ble_eq_true rfl, Nat.le_of_ble_eq_true rfl⟩ rfl rfl rfl (c_X0_gearsMayGo l D cI cZ cO hC hV aV0 aV1 hW aW0 uC uV uW ) rfl rfl (Nat.le_of_ble_eq_true rfl) (Nat.zero_le _) (Nat.zero_le _) dX0_nextStage_94 ?_
          refine x_if_eqZ C 104 dX0_nextStage_97 (by decide) (fun c11 => ?_) (fun c11 => ?_)
          · refine x_iconst C 3 dX0_nextStage_100 (by decide) ?_
            refine x_goto C 105 dX0_nextStage_101 (by decide) ?_
            exact x_iret C rfl dX0_nextStage_105 rfl rfl
          · refine x_iconst C 5 dX0_nextStage_104 (by decide) ?_
            exact x_iret C rfl dX0_nextStage_105 rfl rfl
        · refine x_split (fun c5 => ?_) (fun c5 => ?_)
          · refine x_tsI C 5 106 dX0_nextStage_4 (i_eq c5 (by decide : (5 : Int32).toInt = 5)) (by decide) (by decide) rfl (by decide) ?_
            refine x_aload_n C dX0_nextStage_106 0 rfl ?_
            refine x_get (v := .int (uC 6 0)) C hwsX00 6 mw_26 0 rfl rfl (by decide) rfl rfl dX0_nextStage_107 ?_
            refine x_iconst C 1 dX0_nextStage_110 (by decide) ?_
            refine x_icmp_ne C 118 dX0_nextStage_111 (by decide) (fun c12 => ?_) (fun c12 => ?_)
            · refine x_iconst C 2 dX0_nextStage_114 (by decide) ?_
              refine x_goto C 120 dX0_nextStage_115 (by decide) ?_
              exact x_iret C rfl dX0_nextStage_120 rfl rfl
            · refine x_bipush C 6 dX0_nextStage_118 (by decide) ?_
              exact x_iret C rfl dX0_nextStage_120 rfl rfl
          · refine x_split (fun c6 => ?_) (fun c6 => ?_)
            · refine x_tsI C 6 121 dX0_nextStage_4 (i_eq c6 (by decide : (6 : Int32).toInt = 6)) (by decide) (by decide) rfl (by decide) ?_
              refine x_aload_n C dX0_nextStage_121 0 rfl ?_
              refine x_get (v := .ref hV) C hwsX00 1 mw_18 0 rfl rfl (by decide) rfl rfl dX0_nextStage_122 ?_
              refine x_iconst C 3 dX0_nextStage_125 (by decide) ?_
              refine x_cVi (q0 := 1) (As := [.int 3]) (ws' := wX0 cI cZ cO hC hV hW uC ++ wX4 cI cZ cO hV aV0 aV1 uV ++ wX5 cI cZ cO hW aW0 uW) C mw_55 mw_56 mw_57 mw_17 mw_50 hd_X4_allSeen rfl rfl ⟨Nat.le_of_ble_eq_true rfl, Nat.le_of_ble_eq_true rfl⟩ rfl rfl rfl (c_X4_allSeen l D cI cZ cO hV aV0 aV1 uV 3 (by omega)) [1, 2, 3] [.inl 0, .inr 0, .inr 1, .inr 2, .inl 4, .inl 5] ⟨rfl, rfl, rfl, trivial⟩ rfl ⟨rfl, rfl, rfl, rfl, rfl, rfl, trivial⟩ rfl ⟨rfl, rfl, rfl, rfl, rfl, rfl, trivial⟩ rfl rfl (Nat.le_of_ble_eq_true rfl) (Nat.zero_le _) (Nat.zero_le _) dX0_nextStage_126 ?_
              refine x_if_eqZ C 137 dX0_nextStage_129 (by decide) (fun c13 => ?_) (fun c13 => ?_)
              · refine x_bipush C 7 dX0_nextStage_132 (by decide) ?_
                refine x_goto C 139 dX0_nextStage_134 (by decide) ?_
                exact x_iret C rfl dX0_nextStage_139 rfl rfl
              · refine x_bipush C 6 dX0_nextStage_137 (by decide) ?_
                exact x_iret C rfl dX0_nextStage_139 rfl rfl
            · refine x_split (fun c7 => ?_) (fun c7 => ?_)
              · refine x_tsI C 7 140 dX0_nextStage_4 (i_eq c7 (by decide : (7 : Int32).toInt = 7)) (by decide) (by decide) rfl (by decide) ?_
                refine x_aload_n C dX0_nextStage_140 0 rfl ?_
                refine x_get (v := .int (uC 4 0)) C hwsX00 4 mw_24 0 rfl rfl (by decide) rfl rfl dX0_nextStage_141 ?_
                refine x_bipush C 10 dX0_nextStage_144 (by decide) ?_
                refine x_icmp_lt C 153 dX0_nextStage_146 (by decide) (fun c14 => ?_) (fun c14 => ?_)
                · refine x_bipush C 7 dX0_nextStage_153 (by decide) ?_
                  exact x_iret C rfl dX0_nextStage_155 rfl rfl
                · refine x_iconst C 0 dX0_nextStage_149 (by decide) ?_
                  refine x_goto C 155 dX0_nextStage_150 (by decide) ?_
                  exact x_iret C rfl dX0_nextStage_155 rfl rfl
              · refine x_tsO C 156 dX0_nextStage_4 (by have g0 := i_ne c1 (by decide : (1 : Int32).toInt = 1); have g1 := i_ne c2 (by decide : (2 : Int32).toInt = 2); have g2 := i_ne c3 (by decide : (3 : Int32).toInt = 3); have g3 := i_ne c4 (by decide : (4 : Int32).toInt = 4); have g4 := i_ne c5 (by decide : (5 : Int32).toInt = 5); have g5 := i_ne c6 (by decide : (6 : Int32).toInt = 6); have g6 := i_ne c7 (by decide : (7 : Int32).toInt = 7); omega) (by decide) ?_
                refine x_aload_n C dX0_nextStage_156 0 rfl ?_
                refine x_get (v := .int (uC 3 0)) C hwsX00 3 mw_23 0 rfl rfl (by decide) rfl rfl dX0_nextStage_157 ?_
                exact x_iret C rfl dX0_nextStage_160 rfl rfl

def f_X0_act_o102 (xt : Int32) (o1 : St) (b7 : St × St) (o8 : St) : St × St × St × St := if (b7.1 7 0) = 0 then (if (f_X5_firstCause o8 o1) = 0 then (put b7.1 7 0 (f_X5_firstCause o8 o1), o1, o8, b7.2) else (put b7.1 7 0 (f_X5_firstCause o8 o1), o1, o8, (f_X1_add b7.2 xt (b7.1 0 0) (10 + (f_X5_firstCause o8 o1))))) else (b7.1, o1, o8, b7.2)
def f_X0_act_k92 (uW : St) (xt : Int32) (o1 : St) (b3 : Bool) (b7 : St × St) : St × St × St × St := f_X0_act_o102 xt o1 b7 (f_X5_count uW (f_X0_orders b7.1 o1 uW) b3)
def f_X0_act_o78 (uG : St) (xt : Int32) (b5 : Int32 × St) (o13 : St) : St × St := (o13, (f_X1_add uG xt (o13 0 0) b5.1))
def f_X0_act_k57 (uW : St) (uG : St) (xt : Int32) (o1 : St) (b3 : Bool) (b5 : Int32 × St) : St × St × St × St := f_X0_act_k92 uW xt o1 b3 (if (b5.2 7 0) = 0 then (if b5.1 = (b5.2 3 0) then (b5.2, uG) else (f_X0_act_o78 uG xt b5 (f_X0_come b5.2 o1 uW b5.1))) else (b5.2, uG))
def f_X0_act_o47 (o15 : Int32 × St) : Int32 × St := (o15.1, o15.2)
def f_X0_act_k39 (uC : St) (uW : St) (uG : St) (xt : Int32) (o1 : St) (b3 : Bool) : St × St × St × St := f_X0_act_k57 uW uG xt o1 b3 (if b3 = true then (f_X0_act_o47 (f_X0_turn (put uC 4 0 ((uC 4 0) + 1)) o1 uW)) else ((f_X0_nextStage (put uC 4 0 ((uC 4 0) + 1)) o1 uW), put uC 4 0 ((uC 4 0) + 1)))
def f_X0_act_o5 (uC : St) (uW : St) (uG : St) (xt : Int32) (o1 : St) : St × St × St × St := f_X0_act_k39 uC uW uG xt o1 (if (o1 0 0) = (uC 5 0) then false else true)
def f_X0_act (uC : St) (uV : St) (uW : St) (uS : St) (uG : St) (xt : Int32) : St × St × St × St := f_X0_act_o5 uC uW uG xt (f_X4_take uV uS)
theorem hd_X0_act : yX0_act.cls ≠ "java/lang/invoke/MethodHandle" ∧ yX0_act.cls ≠ "java/lang/invoke/VarHandle" ∧ (parseMethodDescriptor yX0_act.desc).map (fun d => d.parameters.length) = some 3 := by decide +kernel
set_option maxHeartbeats 4000000 in
set_option maxRecDepth 100000 in
theorem c_X0_act (l : Launch) (D : va_G) (cI cZ cO : ClassId) (hC hV aV0 aV1 hW aW0 hS aS0 aS1 hG aG0 : Nat) (uC : St) (uV : St) (uW : St) (uS : St) (uG : St) (xt : Int32)  : CTv l D (T3 cI cZ cO) yX0_act (Cond.code yX0_act cX0_act 6 none :: WA) ({ frames := 4, cells := 0, slots := 0, locals := 81 } : Room) [.ref hC, .ref hS, .ref hG, .int xt] (wX0 cI cZ cO hC hV hW uC ++ wX4 cI cZ cO hV aV0 aV1 uV ++ wX5 cI cZ cO hW aW0 uW ++ wX3 cI cZ cO hS aS0 aS1 uS ++ wX1 cI cZ cO hG aG0 uG) (wX0 cI cZ cO hC hV hW (f_X0_act uC uV uW uS uG xt).1 ++ wX4 cI cZ cO hV aV0 aV1 (f_X0_act uC uV uW uS uG xt).2.1 ++ wX5 cI cZ cO hW aW0 (f_X0_act uC uV uW uS uG xt).2.2.1 ++ wX3 cI cZ cO hS aS0 aS1 uS ++ wX1 cI cZ cO hG aG0 (f_X0_act uC uV uW uS uG xt).2.2.2) := by
  refine ct_v (K := fun z => z) (t := f_X0_act uC uV uW uS uG xt) (wf := fun o => wX0 cI cZ cO hC hV hW o.1 ++ wX4 cI cZ cO hV aV0 aV1 o.2.1 ++ wX5 cI cZ cO hW aW0 o.2.2.1 ++ wX3 cI cZ cO hS aS0 aS1 uS ++ wX1 cI cZ cO hG aG0 o.2.2.2) (own := RX0) (nm := "act") (L0 := [(0, .ref hC), (1, .ref hS), (2, .ref hG), (3, .int xt)]) (plainFor_of_name (by decide +kernel)) rfl rfl (Nat.le_of_ble_eq_true rfl) rfl ?_
  intro p e s m args below meth c A C
  unfold f_X0_act
  refine x_aload_n C dX0_act_0 0 rfl ?_
  refine x_get (v := .ref hV) C hwsX00 1 mw_18 0 rfl rfl (by decide) rfl rfl dX0_act_1 ?_
  refine x_aload_n C dX0_act_4 1 rfl ?_
  refine x_cVv (q0 := 1) (As := [.ref hS]) (ws' := wX0 cI cZ cO hC hV hW uC ++ wX4 cI cZ cO hV aV0 aV1 (f_X4_take uV uS) ++ wX5 cI cZ cO hW aW0 uW ++ wX3 cI cZ cO hS aS0 aS1 uS ++ wX1 cI cZ cO hG aG0 uG) C mw_129 mw_130 mw_131 mw_17 mw_82 hd_X4_take rfl rfl ⟨Nat.le_of_ble_eq_true rfl, Nat.le_of_ble_eq_true rfl⟩ rfl rfl rfl (c_X4_take l D cI cZ cO hV aV0 aV1 hS aS0 aS1 uV uS ) [1, 2, 3, 6, 7, 8] [.inl 0, .inr 0, .inr 1, .inr 2, .inl 4, .inl 5, .inr 3, .inr 4, .inr 5, .inl 9, .inl 10] ⟨rfl, rfl, rfl, rfl, rfl, rfl, trivial⟩ rfl ⟨rfl, rfl, rfl, rfl, rfl, rfl, rfl, rfl, rfl, rfl, rfl, trivial⟩ rfl ⟨rfl, rfl, rfl, rfl, rfl, rfl, rfl, rfl, rfl, rfl, rfl, trivial⟩ rfl rfl (Nat.le_of_ble_eq_true rfl) (Nat.zero_le _) (Nat.zero_le _) dX0_act_5 ?_
  unfold f_X0_act_o5
  generalize f_X4_take uV uS = o1
  refine x_aload_n C dX0_act_8 0 rfl ?_
  refine x_dup C dX0_act_9 rfl ?_
  refine x_get (v := .int (uC 4 0)) C hwsX00 4 mw_24 0 rfl rfl (by decide) rfl rfl dX0_act_10 ?_
  refine x_iconst C 1 dX0_act_13 (by decide) ?_
  refine x_iadd C dX0_act_14 ?_
  refine x_put (ws' := wX0 cI cZ cO hC hV hW (put uC 4 0 ((uC 4 0) + 1)) ++ wX4 cI cZ cO hV aV0 aV1 o1 ++ wX5 cI cZ cO hW aW0 uW ++ wX3 cI cZ cO hS aS0 aS1 uS ++ wX1 cI cZ cO hG aG0 uG) C hwsX00 tyX0 tyX0_ok nmX0 4 mw_24 0 rfl rfl (by decide) rfl rfl rfl rfl (Nat.le_of_ble_eq_true rfl) dX0_act_15 rfl ?_
  refine x_aload_n C dX0_act_18 0 rfl ?_
  refine x_get (v := .ref hV) C hwsX00 1 mw_18 0 rfl rfl (by decide) rfl rfl dX0_act_19 ?_
  refine x_get (v := .ref aV0) C hwsX40 0 mw_48 1 rfl rfl (by decide) rfl rfl dX0_act_22 ?_
  refine x_iconst C 0 dX0_act_25 (by decide) ?_
  refine x_iald C 2 0 rfl rfl 0 rfl (by omega) (by decide) (o1 0 0) rfl dX0_act_26 ?_
  refine x_aload_n C dX0_act_27 0 rfl ?_
  refine x_get (v := .int (uC 5 0)) C hwsX00 5 mw_25 0 rfl rfl (by decide) rfl rfl dX0_act_28 ?_
  refine x_join (fun (b3 : Bool) => f_X0_act_k39 uC uW uG xt o1 b3) 39 (fun (b3 : Bool) => [(0, .ref hC), (1, .ref hS), (2, .ref hG), (3, .int xt)]) (fun (b3 : Bool) => [.int (b2i b3)]) (fun (b3 : Bool) => wX0 cI cZ cO hC hV hW (put uC 4 0 ((uC 4 0) + 1)) ++ wX4 cI cZ cO hV aV0 aV1 o1 ++ wX5 cI cZ cO hW aW0 uW ++ wX3 cI cZ cO hS aS0 aS1 uS ++ wX1 cI cZ cO hG aG0 uG) (fun b3 => ?_) _ (fun J16 => ?_)
  · unfold f_X0_act_k39
    refine x_istore (L' := [(4, .int (b2i b3)), (0, .ref hC), (1, .ref hS), (2, .ref hG), (3, .int xt)]) C dX0_act_39 (by decide) rfl ?_
    refine x_iload C dX0_act_41 0 rfl ?_
    refine x_join (fun (b5 : Int32 × St) => f_X0_act_k57 uW uG xt o1 b3 b5) 57 (fun (b5 : Int32 × St) => [(0, .ref hC), (1, .ref hS), (2, .ref hG), (3, .int xt), (4, .int (b2i b3))]) (fun (b5 : Int32 × St) => [.int b5.1]) (fun (b5 : Int32 × St) => wX0 cI cZ cO hC hV hW b5.2 ++ wX4 cI cZ cO hV aV0 aV1 o1 ++ wX5 cI cZ cO hW aW0 uW ++ wX3 cI cZ cO hS aS0 aS1 uS ++ wX1 cI cZ cO hG aG0 uG) (fun b5 => ?_) _ (fun J14 => ?_)
    · unfold f_X0_act_k57
      refine x_istore (L' := [(5, .int b5.1), (0, .ref hC), (1, .ref hS), (2, .ref hG), (3, .int xt), (4, .int (b2i b3))]) C dX0_act_57 (by decide) rfl ?_
      refine x_aload_n C dX0_act_59 1 rfl ?_
      refine x_get (v := .int (b5.2 7 0)) C hwsX00 7 mw_27 0 rfl rfl (by decide) rfl rfl dX0_act_60 ?_
      refine x_join (fun (b7 : St × St) => f_X0_act_k92 uW xt o1 b3 b7) 92 (fun (b7 : St × St) => [(0, .ref hC), (1, .ref hS), (2, .ref hG), (3, .int xt), (4, .int (b2i b3)), (5, .int b5.1)]) (fun (b7 : St × St) => []) (fun (b7 : St × St) => wX0 cI cZ cO hC hV hW b7.1 ++ wX4 cI cZ cO hV aV0 aV1 o1 ++ wX5 cI cZ cO hW aW0 uW ++ wX3 cI cZ cO hS aS0 aS1 uS ++ wX1 cI cZ cO hG aG0 b7.2) (fun b7 => ?_) _ (fun J11 => ?_)
      · unfold f_X0_act_k92
        refine x_aload_n C dX0_act_92 0 rfl ?_
        refine x_get (v := .ref hW) C hwsX00 2 mw_22 0 rfl rfl (by decide) rfl rfl dX0_act_93 ?_
        refine x_aload_n C dX0_act_96 0 rfl ?_
        refine x_cVi (q0 := 0) (As := []) (ws' := wX0 cI cZ cO hC hV hW b7.1 ++ wX4 cI cZ cO hV aV0 aV1 o1 ++ wX5 cI cZ cO hW aW0 uW ++ wX3 cI cZ cO hS aS0 aS1 uS ++ wX1 cI cZ cO hG aG0 b7.2) C mw_43 mw_44 mw_45 mw_46 mw_35 hd_X0_orders rfl rfl ⟨Nat.le_of_ble_eq_true rfl, Nat.le_of_ble_eq_true rfl⟩ rfl rfl rfl (c_X0_orders l D cI cZ cO hC hV aV0 aV1 hW aW0 b7.1 o1 uW ) [0, 1, 2, 3, 4, 5] [.inr 0, .inr 1, .inr 2, .inr 3, .inr 4, .inr 5, .inl 6, .inl 7, .inl 8, .inl 9, .inl 10] ⟨rfl, rfl, rfl, rfl, rfl, rfl, trivial⟩ rfl ⟨rfl, rfl, rfl, rfl, rfl, rfl, rfl, rfl, rfl, rfl, rfl, trivial⟩ rfl ⟨rfl, rfl, rfl, rfl, rfl, rfl, rfl, rfl, rfl, rfl, rfl, trivial⟩ rfl rfl (Nat.le_of_ble_eq_true rfl) (Nat.zero_le _) (Nat.zero_le _) dX0_act_97 ?_
        refine x_iload C dX0_act_100 4 rfl ?_
        refine x_cVv (q0 := 4) (As := [.int (f_X0_orders b7.1 o1 uW), .int (b2i b3)]) (ws' := wX0 cI cZ cO hC hV hW b7.1 ++ wX4 cI cZ cO hV aV0 aV1 o1 ++ wX5 cI cZ cO hW aW0 (f_X5_count uW (f_X0_orders b7.1 o1 uW) b3) ++ wX3 cI cZ cO hS aS0 aS1 uS ++ wX1 cI cZ cO hG aG0 b7.2) C mw_145 mw_146 mw_147 mw_21 mw_106 hd_X5_count rfl rfl ⟨Nat.le_of_ble_eq_true rfl, Nat.le_of_ble_eq_true rfl⟩ rfl rfl rfl (c_X5_count l D cI cZ cO hW aW0 uW (f_X0_orders b7.1 o1 uW) b3 ) [4, 5] [.inl 0, .inl 1, .inl 2, .inl 3, .inr 0, .inr 1, .inl 6, .inl 7, .inl 8, .inl 9, .inl 10] ⟨rfl, rfl, trivial⟩ rfl ⟨rfl, rfl, rfl, rfl, rfl, rfl, rfl, rfl, rfl, rfl, rfl, trivial⟩ rfl ⟨rfl, rfl, rfl, rfl, rfl, rfl, rfl, rfl, rfl, rfl, rfl, trivial⟩ rfl rfl (Nat.le_of_ble_eq_true rfl) (Nat.zero_le _) (Nat.zero_le _) dX0_act_102 ?_
        unfold f_X0_act_o102
        generalize f_X5_count uW (f_X0_orders b7.1 o1 uW) b3 = o8
        refine x_aload_n C dX0_act_105 0 rfl ?_
        refine x_get (v := .int (b7.1 7 0)) C hwsX00 7 mw_27 0 rfl rfl (by decide) rfl rfl dX0_act_106 ?_
        refine x_if_ne C 150 dX0_act_109 (by decide) (fun c9 => ?_) (fun c9 => ?_)
        · refine x_aload_n C dX0_act_112 0 rfl ?_
          refine x_aload_n C dX0_act_113 0 rfl ?_
          refine x_get (v := .ref hW) C hwsX00 2 mw_22 0 rfl rfl (by decide) rfl rfl dX0_act_114 ?_
          refine x_aload_n C dX0_act_117 0 rfl ?_
          refine x_get (v := .ref hV) C hwsX00 1 mw_18 0 rfl rfl (by decide) rfl rfl dX0_act_118 ?_
          refine x_cVi (q0 := 4) (As := [.ref hV]) (ws' := wX0 cI cZ cO hC hV hW b7.1 ++ wX4 cI cZ cO hV aV0 aV1 o1 ++ wX5 cI cZ cO hW aW0 o8 ++ wX3 cI cZ cO hS aS0 aS1 uS ++ wX1 cI cZ cO hG aG0 b7.2) C mw_148 mw_149 mw_150 mw_21 mw_128 hd_X5_firstCause rfl rfl ⟨Nat.le_of_ble_eq_true rfl, Nat.le_of_ble_eq_true rfl⟩ rfl rfl rfl (c_X5_firstCause l D cI cZ cO hW aW0 hV aV0 aV1 o8 o1 ) [4, 5, 1, 2, 3] [.inl 0, .inr 2, .inr 3, .inr 4, .inr 0, .inr 1, .inl 6, .inl 7, .inl 8, .inl 9, .inl 10] ⟨rfl, rfl, rfl, rfl, rfl, trivial⟩ rfl ⟨rfl, rfl, rfl, rfl, rfl, rfl, rfl, rfl, rfl, rfl, rfl, trivial⟩ rfl ⟨rfl, rfl, rfl, rfl, rfl, rfl, rfl, rfl, rfl, rfl, rfl, trivial⟩ rfl rfl (Nat.le_of_ble_eq_true rfl) (Nat.zero_le _) (Nat.zero_le _) dX0_act_121 ?_
          refine x_put (ws' := wX0 cI cZ cO hC hV hW (put b7.1 7 0 (f_X5_firstCause o8 o1)) ++ wX4 cI cZ cO hV aV0 aV1 o1 ++ wX5 cI cZ cO hW aW0 o8 ++ wX3 cI cZ cO hS aS0 aS1 uS ++ wX1 cI cZ cO hG aG0 b7.2) C hwsX00 tyX0 tyX0_ok nmX0 7 mw_27 0 rfl rfl (by decide) rfl rfl rfl rfl (Nat.le_of_ble_eq_true rfl) dX0_act_124 rfl ?_
          refine x_aload_n C dX0_act_127 0 rfl ?_
          refine x_get (v := .int (f_X5_firstCause o8 o1)) C hwsX00 7 mw_27 0 rfl rfl (by decide) rfl rfl dX0_act_128 ?_
          refine x_if_eq C 150 dX0_act_131 (by decide) (fun c10 => ?_) (fun c10 => ?_)
          · exact x_vret C rfl dX0_act_150 rfl
          · refine x_aload_n C dX0_act_134 2 rfl ?_
            refine x_iload_n C dX0_act_135 3 rfl ?_
            refine x_aload_n C dX0_act_136 0 rfl ?_
            refine x_get (v := .int (b7.1 0 0)) C hwsX00 0 mw_14 0 rfl rfl (by decide) rfl rfl dX0_act_137 ?_
            refine x_bipush C 10 dX0_act_140 (by decide) ?_
            refine x_aload_n C dX0_act_142 0 rfl ?_
            refine x_get (v := .int (f_X5_firstCause o8 o1)) C hwsX00 7 mw_27 0 rfl rfl (by decide) rfl rfl dX0_act_143 ?_
            refine x_iadd C dX0_act_146 ?_
            refine x_cVv (q0 := 9) (As := [.int xt, .int (b7.1 0 0), .int (10 + (f_X5_firstCause o8 o1))]) (ws' := wX0 cI cZ cO hC hV hW (put b7.1 7 0 (f_X5_firstCause o8 o1)) ++ wX4 cI cZ cO hV aV0 aV1 o1 ++ wX5 cI cZ cO hW aW0 o8 ++ wX3 cI cZ cO hS aS0 aS1 uS ++ wX1 cI cZ cO hG aG0 (f_X1_add b7.2 xt (b7.1 0 0) (10 + (f_X5_firstCause o8 o1)))) C mw_141 mw_142 mw_143 mw_144 mw_99 hd_X1_add rfl rfl ⟨Nat.le_of_ble_eq_true rfl, Nat.le_of_ble_eq_true rfl⟩ rfl rfl rfl (c_X1_add l D cI cZ cO hG aG0 b7.2 xt (b7.1 0 0) (10 + (f_X5_firstCause o8 o1)) ) [9, 10] [.inl 0, .inl 1, .inl 2, .inl 3, .inl 4, .inl 5, .inl 6, .inl 7, .inl 8, .inr 0, .inr 1] ⟨rfl, rfl, trivial⟩ rfl ⟨rfl, rfl, rfl, rfl, rfl, rfl, rfl, rfl, rfl, rfl, rfl, trivial⟩ rfl ⟨rfl, rfl, rfl, rfl, rfl, rfl, rfl, rfl, rfl, rfl, rfl, trivial⟩ rfl rfl (Nat.le_of_ble_eq_true rfl) (Nat.zero_le _) (Nat.zero_le _) dX0_act_147 ?_
            exact x_vret C rfl dX0_act_150 rfl
        · exact x_vret C rfl dX0_act_150 rfl
      · refine x_if_ne C 92 dX0_act_63 (by decide) (fun c6 => ?_) (fun c6 => ?_)
        · refine x_iload C dX0_act_66 0 rfl ?_
          refine x_aload_n C dX0_act_68 1 rfl ?_
          refine x_get (v := .int (b5.2 3 0)) C hwsX00 3 mw_23 0 rfl rfl (by decide) rfl rfl dX0_act_69 ?_
          refine x_icmp_eq C 92 dX0_act_72 (by decide) (fun c12 => ?_) (fun c12 => ?_)
          · refine x_lsub (L' := [(0, .ref hC), (1, .ref hS), (2, .ref hG), (3, .int xt), (4, .int (b2i b3)), (5, .int b5.1)]) [1, 2, 3, 4, 5, 0] rfl ?_
            exact J11 (b5.2, uG)
          · refine x_aload_n C dX0_act_75 1 rfl ?_
            refine x_iload C dX0_act_76 0 rfl ?_
            refine x_cVv (q0 := 0) (As := [.int b5.1]) (ws' := wX0 cI cZ cO hC hV hW (f_X0_come b5.2 o1 uW b5.1) ++ wX4 cI cZ cO hV aV0 aV1 o1 ++ wX5 cI cZ cO hW aW0 uW ++ wX3 cI cZ cO hS aS0 aS1 uS ++ wX1 cI cZ cO hG aG0 uG) C mw_138 mw_139 mw_140 mw_46 mw_97 hd_X0_come rfl rfl ⟨Nat.le_of_ble_eq_true rfl, Nat.le_of_ble_eq_true rfl⟩ rfl rfl rfl (c_X0_come l D cI cZ cO hC hV aV0 aV1 hW aW0 b5.2 o1 uW b5.1 ) [0, 1, 2, 3, 4, 5] [.inr 0, .inr 1, .inr 2, .inr 3, .inr 4, .inr 5, .inl 6, .inl 7, .inl 8, .inl 9, .inl 10] ⟨rfl, rfl, rfl, rfl, rfl, rfl, trivial⟩ rfl ⟨rfl, rfl, rfl, rfl, rfl, rfl, rfl, rfl, rfl, rfl, rfl, trivial⟩ rfl ⟨rfl, rfl, rfl, rfl, rfl, rfl, rfl, rfl, rfl, rfl, rfl, trivial⟩ rfl rfl (Nat.le_of_ble_eq_true rfl) (Nat.zero_le _) (Nat.zero_le _) dX0_act_78 ?_
            unfold f_X0_act_o78
            generalize f_X0_come b5.2 o1 uW b5.1 = o13
            refine x_lsub (L' := [(0, .ref hC), (1, .ref hS), (2, .ref hG), (3, .int xt), (4, .int (b2i b3)), (5, .int b5.1)]) [1, 2, 3, 4, 5, 0] rfl ?_
            refine x_aload_n C dX0_act_81 2 rfl ?_
            refine x_iload_n C dX0_act_82 3 rfl ?_
            refine x_aload_n C dX0_act_83 0 rfl ?_
            refine x_get (v := .int (o13 0 0)) C hwsX00 0 mw_14 0 rfl rfl (by decide) rfl rfl dX0_act_84 ?_
            refine x_iload C dX0_act_87 5 rfl ?_
            refine x_cVv (q0 := 9) (As := [.int xt, .int (o13 0 0), .int b5.1]) (ws' := wX0 cI cZ cO hC hV hW o13 ++ wX4 cI cZ cO hV aV0 aV1 o1 ++ wX5 cI cZ cO hW aW0 uW ++ wX3 cI cZ cO hS aS0 aS1 uS ++ wX1 cI cZ cO hG aG0 (f_X1_add uG xt (o13 0 0) b5.1)) C mw_141 mw_142 mw_143 mw_144 mw_99 hd_X1_add rfl rfl ⟨Nat.le_of_ble_eq_true rfl, Nat.le_of_ble_eq_true rfl⟩ rfl rfl rfl (c_X1_add l D cI cZ cO hG aG0 uG xt (o13 0 0) b5.1 ) [9, 10] [.inl 0, .inl 1, .inl 2, .inl 3, .inl 4, .inl 5, .inl 6, .inl 7, .inl 8, .inr 0, .inr 1] ⟨rfl, rfl, trivial⟩ rfl ⟨rfl, rfl, rfl, rfl, rfl, rfl, rfl, rfl, rfl, rfl, rfl, trivial⟩ rfl ⟨rfl, rfl, rfl, rfl, rfl, rfl, rfl, rfl, rfl, rfl, rfl, trivial⟩ rfl rfl (Nat.le_of_ble_eq_true rfl) (Nat.zero_le _) (Nat.zero_le _) dX0_act_89 ?_
            exact J11 (o13, (f_X1_add uG xt (o13 0 0) b5.1))
        · refine x_lsub (L' := [(0, .ref hC), (1, .ref hS), (2, .ref hG), (3, .int xt), (4, .int (b2i b3)), (5, .int b5.1)]) [1, 2, 3, 4, 5, 0] rfl ?_
          exact J11 (b5.2, uG)
    · refine x_if_eqZ C 53 dX0_act_43 (by decide) (fun c4 => ?_) (fun c4 => ?_)
      · refine x_aload_n C dX0_act_46 1 rfl ?_
        refine x_cVi (q0 := 0) (As := []) (ws' := wX0 cI cZ cO hC hV hW ((f_X0_turn (put uC 4 0 ((uC 4 0) + 1)) o1 uW).2) ++ wX4 cI cZ cO hV aV0 aV1 o1 ++ wX5 cI cZ cO hW aW0 uW ++ wX3 cI cZ cO hS aS0 aS1 uS ++ wX1 cI cZ cO hG aG0 uG) C mw_132 mw_133 mw_134 mw_46 mw_83 hd_X0_turn rfl rfl ⟨Nat.le_of_ble_eq_true rfl, Nat.le_of_ble_eq_true rfl⟩ rfl rfl rfl (c_X0_turn l D cI cZ cO hC hV aV0 aV1 hW aW0 (put uC 4 0 ((uC 4 0) + 1)) o1 uW ) [0, 1, 2, 3, 4, 5] [.inr 0, .inr 1, .inr 2, .inr 3, .inr 4, .inr 5, .inl 6, .inl 7, .inl 8, .inl 9, .inl 10] ⟨rfl, rfl, rfl, rfl, rfl, rfl, trivial⟩ rfl ⟨rfl, rfl, rfl, rfl, rfl, rfl, rfl, rfl, rfl, rfl, rfl, trivial⟩ rfl ⟨rfl, rfl, rfl, rfl, rfl, rfl, rfl, rfl, rfl, rfl, rfl, trivial⟩ rfl rfl (Nat.le_of_ble_eq_true rfl) (Nat.zero_le _) (Nat.zero_le _) dX0_act_47 ?_
        unfold f_X0_act_o47
        generalize f_X0_turn (put uC 4 0 ((uC 4 0) + 1)) o1 uW = o15
        refine x_lsub (L' := [(0, .ref hC), (1, .ref hS), (2, .ref hG), (3, .int xt), (4, .int (b2i b3))]) [1, 2, 3, 4, 0] rfl ?_
        refine x_goto C 57 dX0_act_50 (by decide) ?_
        exact J14 (o15.1, o15.2)
      · refine x_aload_n C dX0_act_53 1 rfl ?_
        refine x_cVi (q0 := 0) (As := []) (ws' := wX0 cI cZ cO hC hV hW (put uC 4 0 ((uC 4 0) + 1)) ++ wX4 cI cZ cO hV aV0 aV1 o1 ++ wX5 cI cZ cO hW aW0 uW ++ wX3 cI cZ cO hS aS0 aS1 uS ++ wX1 cI cZ cO hG aG0 uG) C mw_135 mw_136 mw_137 mw_46 mw_93 hd_X0_nextStage rfl rfl ⟨Nat.le_of_ble_eq_true rfl, Nat.le_of_ble_eq_true rfl⟩ rfl rfl rfl (c_X0_nextStage l D cI cZ cO hC hV aV0 aV1 hW aW0 (put uC 4 0 ((uC 4 0) + 1)) o1 uW ) [0, 1, 2, 3, 4, 5] [.inr 0, .inr 1, .inr 2, .inr 3, .inr 4, .inr 5, .inl 6, .inl 7, .inl 8, .inl 9, .inl 10] ⟨rfl, rfl, rfl, rfl, rfl, rfl, trivial⟩ rfl ⟨rfl, rfl, rfl, rfl, rfl, rfl, rfl, rfl, rfl, rfl, rfl, trivial⟩ rfl ⟨rfl, rfl, rfl, rfl, rfl, rfl, rfl, rfl, rfl, rfl, rfl, trivial⟩ rfl rfl (Nat.le_of_ble_eq_true rfl) (Nat.zero_le _) (Nat.zero_le _) dX0_act_54 ?_
        refine x_lsub (L' := [(0, .ref hC), (1, .ref hS), (2, .ref hG), (3, .int xt), (4, .int (b2i b3))]) [1, 2, 3, 4, 0] rfl ?_
        exact J14 ((f_X0_nextStage (put uC 4 0 ((uC 4 0) + 1)) o1 uW), put uC 4 0 ((uC 4 0) + 1))
  · refine x_icmp_eq C 38 dX0_act_31 (by decide) (fun c2 => ?_) (fun c2 => ?_)
    · refine x_iconst C 0 dX0_act_38 (by decide) ?_
      exact J16 false
    · refine x_iconst C 1 dX0_act_34 (by decide) ?_
      refine x_goto C 39 dX0_act_35 (by decide) ?_
      exact J16 true
end
section
theorem case01 {x : Int32} (h : f_X6_outside x 1 = false) (h0 : ¬ x = 0) : x = 1 := by
  obtain ⟨h1, h2⟩ := out_nat 1 (by decide) (g := 1) rfl h
  have h3 : ixn x = 0 ∨ ixn x = 1 := by omega
  rcases h3 with h3 | h3
  · rw [h3] at h1; exact absurd h1 h0
  · rw [h3] at h1; exact h1
theorem run_nat {x : Int32} (h0 : ¬ x < 1) (h1 : ¬ 1000 < x) : x = nI (ixn x) ∧ ixn x ≤ 1000 ∧ ixn x < 2 ^ 31 := by
  have h : ¬ x < 0 := fun z => h0 (Int32.lt_trans z (by decide))
  obtain ⟨a, b⟩ := ix_of (M := 1000) (n := 1000) (by decide) rfl h h1
  exact ⟨a, b, by omega⟩
theorem lt_nat {x M : Int32} (n : Nat) (hn : n < 2 ^ 31) (h0 : ¬ x < 0) (h1 : x < M) (hM : M = nI n := by rfl) : x = nI (ixn x) ∧ ixn x < n := by
  subst hM
  obtain ⟨a, b⟩ := ix_of (M := nI n) (n := n) hn rfl h0 (Int32.not_lt.mpr (Int32.le_of_lt h1))
  refine ⟨a, ?_⟩
  rw [a] at h1
  exact (nI_ltI (by omega) hn).mp h1
theorem sub_nat {x : Int32} (h0 : ¬ x < 6) (h1 : x < 11) : x - 6 = nI (ixn (x - 6)) ∧ ixn (x - 6) < 5 := by
  have h : ¬ x < 0 := fun z => h0 (Int32.lt_trans z (by decide))
  obtain ⟨a, b⟩ := lt_nat 11 (by decide) h h1
  have h6 : ¬ ixn x < 6 := fun z => h0 (by rw [a]; exact (nI_ltI (b := 6) (by omega) (by decide)).mpr z)
  have e : x - 6 = nI (ixn x - 6) := by
    conv => lhs; rw [a]
    exact pk_sub (b := 6) (by omega)
  have e2 : ixn (x - 6) = ixn x - 6 := by rw [e]; exact nI_clamp (by omega)
  rw [e2]
  exact ⟨e, by omega⟩
theorem hd_X6_exchange : yX6_exchange.cls ≠ "java/lang/invoke/MethodHandle" ∧ yX6_exchange.cls ≠ "java/lang/invoke/VarHandle" ∧ (parseMethodDescriptor yX6_exchange.desc).map (fun d => d.parameters.length) = some 3 := by decide +kernel
set_option maxHeartbeats 4000000 in
theorem c_X6_exchange (l : Launch) (D : va_G) (cI cZ cO : ClassId) (a n : Nat) (f : Nat → Int32) (j : Nat) (x : Int32) (hj : j < n) (hn : n < 2 ^ 31) : CTi l D (T3 cI cZ cO) yX6_exchange (Cond.code yX6_exchange cX6_exchange 4 (some .int) :: WA) ({ frames := 0, cells := 0, slots := 0, locals := 0 } : Room) [.ref a, .int (nI j), .int x] [(a, .inl (cI, n, .inl f))] (f j) [(a, .inl (cI, n, .inl (upd f j x)))] := by
  refine ct_i (K := fun z => z) (t := ()) (rf := fun _ => f j) (wf := fun _ => [(a, .inl (cI, n, .inl (upd f j x)))]) (own := RX6) (nm := "exchange") (L0 := [(0, .ref a), (1, .int (nI j)), (2, .int x)]) (plainFor_of_name (by decide +kernel)) rfl rfl (Nat.le_of_ble_eq_true rfl) rfl ?_
  intro p e s m args below meth c A C
  refine x_aload_n C dX6_exchange_0 0 rfl ?_
  refine x_iload_n C dX6_exchange_1 1 rfl ?_
  refine x_iald C 0 0 rfl rfl j rfl hj hn (f j) rfl dX6_exchange_2 ?_
  refine x_istore_n (L' := [(3, .int (f j)), (0, .ref a), (1, .int (nI j)), (2, .int x)]) C dX6_exchange_3 (by decide) rfl ?_
  refine x_aload_n C dX6_exchange_4 1 rfl ?_
  refine x_iload_n C dX6_exchange_5 2 rfl ?_
  refine x_iload_n C dX6_exchange_6 3 rfl ?_
  refine x_iast (ws' := [(a, .inl (cI, n, .inl (upd f j x)))]) C 0 0 rfl rfl j rfl hj hn dX6_exchange_7 rfl ?_
  refine x_iload_n C dX6_exchange_8 0 rfl ?_
  exact x_iret C rfl dX6_exchange_9 rfl rfl
def f_X6_ordered_k21 (b1 : Int32) : Int32 := b1
def f_X6_ordered (x : Sy) : Int32 := f_X6_ordered_k21 ((0 ||| (f_X0_orders (x 3) (x 4) (x 5))) ||| (f_X0_orders (x 6) (x 7) (x 8)))
theorem hd_X6_ordered : yX6_ordered.cls ≠ "java/lang/invoke/MethodHandle" ∧ yX6_ordered.cls ≠ "java/lang/invoke/VarHandle" ∧ (parseMethodDescriptor yX6_ordered.desc).map (fun d => d.parameters.length) = some 0 := by decide +kernel
set_option maxHeartbeats 4000000 in
set_option maxRecDepth 100000 in
theorem c_X6_ordered (l : Launch) (D : va_G) (cI cZ cO : ClassId) (q : Nat → Nat) (x : Sy)  : CTi l D (T3 cI cZ cO) yX6_ordered (Cond.code yX6_ordered cX6_ordered 3 (some .int) :: WA) ({ frames := 2, cells := 0, slots := 0, locals := 42 } : Room) [.ref (q 0)] (wLG cI cZ cO q x) ((f_X6_ordered x)) (wLG cI cZ cO q x) := by
  refine ct_i (K := fun z => z) (t := f_X6_ordered x) (rf := fun o => o) (wf := fun o => wLG cI cZ cO q x) (own := RX6) (nm := "ordered") (L0 := [(0, .ref (q 0))]) (plainFor_of_name (by decide +kernel)) rfl rfl (Nat.le_of_ble_eq_true rfl) rfl ?_
  intro p e s m args below meth c A C
  unfold f_X6_ordered
  refine x_iconst C 0 dX6_ordered_0 (by decide) ?_
  refine x_istore_n (L' := [(1, .int 0), (0, .ref (q 0))]) C dX6_ordered_1 (by decide) rfl ?_
  refine x_iconst C 0 dX6_ordered_2 (by decide) ?_
  refine x_istore_n (L' := [(2, .int 0), (1, .int 0), (0, .ref (q 0))]) C dX6_ordered_3 (by decide) rfl ?_
  refine x_iload_n C dX6_ordered_4 0 rfl ?_
  refine x_iconst C 2 dX6_ordered_5 (by decide) ?_
  refine x_icmp_ge_f C 27 dX6_ordered_6 (by decide) (by decide) ?_
  refine x_iload_n C dX6_ordered_9 1 rfl ?_
  refine x_aload_n C dX6_ordered_10 2 rfl ?_
  refine x_get (v := .ref (q 1)) C hwsX60 2 mw_224 0 rfl rfl (by decide) rfl rfl dX6_ordered_11 ?_
  refine x_iload_n C dX6_ordered_14 0 rfl ?_
  refine x_aald C 1 2 rfl rfl 0 rfl (by decide) (by decide) rfl dX6_ordered_15 ?_
  refine x_cVi (q0 := 11) (As := []) (ws' := wLG cI cZ cO q x) C mw_265 mw_44 mw_45 mw_46 mw_35 hd_X0_orders rfl rfl ⟨Nat.le_of_ble_eq_true rfl, Nat.le_of_ble_eq_true rfl⟩ rfl rfl rfl (c_X0_orders l D cI cZ cO (q 11) (q 12) (q 13) (q 14) (q 15) (q 16) (x 3) (x 4) (x 5) ) [11, 12, 13, 14, 15, 16] [.inl 0, .inl 1, .inl 2, .inl 3, .inl 4, .inl 5, .inl 6, .inl 7, .inl 8, .inl 9, .inl 10, .inr 0, .inr 1, .inr 2, .inr 3, .inr 4, .inr 5, .inl 17, .inl 18, .inl 19, .inl 20, .inl 21, .inl 22, .inl 23, .inl 24] ⟨rfl, rfl, rfl, rfl, rfl, rfl, trivial⟩ rfl ⟨rfl, rfl, rfl, rfl, rfl, rfl, rfl, rfl, rfl, rfl, rfl, rfl, rfl, rfl, rfl, rfl, rfl, rfl, rfl, rfl, rfl, rfl, rfl, rfl, rfl, trivial⟩ rfl ⟨rfl, rfl, rfl, rfl, rfl, rfl, rfl, rfl, rfl, rfl, rfl, rfl, rfl, rfl, rfl, rfl, rfl, rfl, rfl, rfl, rfl, rfl, rfl, rfl, rfl, trivial⟩ rfl rfl (Nat.le_of_ble_eq_true rfl) (Nat.zero_le _) (Nat.zero_le _) dX6_ordered_16 ?_
  refine x_ior C dX6_ordered_19 ?_
  refine x_istore_n (L' := [(1, .int (0 ||| (f_X0_orders (x 3) (x 4) (x 5)))), (2, .int 0), (0, .ref (q 0))]) C dX6_ordered_20 (by decide) rfl ?_
  refine x_iinc (L' := [(2, .int 1), (1, .int (0 ||| (f_X0_orders (x 3) (x 4) (x 5)))), (0, .ref (q 0))]) C 1 dX6_ordered_21 1 rfl (by decide) (by decide) rfl ?_
  refine x_goto C 4 dX6_ordered_24 (by decide) ?_
  refine x_iload_n C dX6_ordered_4 0 rfl ?_
  refine x_iconst C 2 dX6_ordered_5 (by decide) ?_
  refine x_icmp_ge_f C 27 dX6_ordered_6 (by decide) (by decide) ?_
  refine x_iload_n C dX6_ordered_9 1 rfl ?_
  refine x_aload_n C dX6_ordered_10 2 rfl ?_
  refine x_get (v := .ref (q 1)) C hwsX60 2 mw_224 0 rfl rfl (by decide) rfl rfl dX6_ordered_11 ?_
  refine x_iload_n C dX6_ordered_14 0 rfl ?_
  refine x_aald C 1 2 rfl rfl 1 rfl (by decide) (by decide) rfl dX6_ordered_15 ?_
  refine x_cVi (q0 := 17) (As := []) (ws' := wLG cI cZ cO q x) C mw_265 mw_44 mw_45 mw_46 mw_35 hd_X0_orders rfl rfl ⟨Nat.le_of_ble_eq_true rfl, Nat.le_of_ble_eq_true rfl⟩ rfl rfl rfl (c_X0_orders l D cI cZ cO (q 17) (q 18) (q 19) (q 20) (q 21) (q 22) (x 6) (x 7) (x 8) ) [17, 18, 19, 20, 21, 22] [.inl 0, .inl 1, .inl 2, .inl 3, .inl 4, .inl 5, .inl 6, .inl 7, .inl 8, .inl 9, .inl 10, .inl 11, .inl 12, .inl 13, .inl 14, .inl 15, .inl 16, .inr 0, .inr 1, .inr 2, .inr 3, .inr 4, .inr 5, .inl 23, .inl 24] ⟨rfl, rfl, rfl, rfl, rfl, rfl, trivial⟩ rfl ⟨rfl, rfl, rfl, rfl, rfl, rfl, rfl, rfl, rfl, rfl, rfl, rfl, rfl, rfl, rfl, rfl, rfl, rfl, rfl, rfl, rfl, rfl, rfl, rfl, rfl, trivial⟩ rfl ⟨rfl, rfl, rfl, rfl, rfl, rfl, rfl, rfl, rfl, rfl, rfl, rfl, rfl, rfl, rfl, rfl, rfl, rfl, rfl, rfl, rfl, rfl, rfl, rfl, rfl, trivial⟩ rfl rfl (Nat.le_of_ble_eq_true rfl) (Nat.zero_le _) (Nat.zero_le _) dX6_ordered_16 ?_
  refine x_ior C dX6_ordered_19 ?_
  refine x_istore_n (L' := [(1, .int ((0 ||| (f_X0_orders (x 3) (x 4) (x 5))) ||| (f_X0_orders (x 6) (x 7) (x 8)))), (2, .int 1), (0, .ref (q 0))]) C dX6_ordered_20 (by decide) rfl ?_
  refine x_join (fun (b1 : Int32) => f_X6_ordered_k21 b1) 21 (fun (b1 : Int32) => [(0, .ref (q 0)), (1, .int b1), (2, .int 1)]) (fun (b1 : Int32) => []) (fun (b1 : Int32) => wLG cI cZ cO q x) (fun b1 => ?_) ((0 ||| (f_X0_orders (x 3) (x 4) (x 5))) ||| (f_X0_orders (x 6) (x 7) (x 8))) (fun J2 => ?_)
  · unfold f_X6_ordered_k21
    refine x_iinc (L' := [(2, .int 2), (0, .ref (q 0)), (1, .int b1)]) C 2 dX6_ordered_21 2 rfl (by decide) (by decide) rfl ?_
    refine x_goto C 4 dX6_ordered_24 (by decide) ?_
    refine x_iload_n C dX6_ordered_4 0 rfl ?_
    refine x_iconst C 2 dX6_ordered_5 (by decide) ?_
    refine x_icmp_ge_t C 27 dX6_ordered_6 (by decide) (by decide) ?_
    refine x_iload_n C dX6_ordered_27 2 rfl ?_
    exact x_iret C rfl dX6_ordered_28 rfl rfl
  · refine x_lsub (L' := [(0, .ref (q 0)), (1, .int ((0 ||| (f_X0_orders (x 3) (x 4) (x 5))) ||| (f_X0_orders (x 6) (x 7) (x 8)))), (2, .int 1)]) [2, 0, 1] rfl ?_
    exact J2 _

def f_X6_unsettled_k30 (b4 : Bool) : Bool := b4
def f_X6_unsettled_k30_2 (x : Sy) (b2 : Bool) : Bool := f_X6_unsettled_k30 (if b2 = true then true else (if (f_X0_underWay (x 6) (x 7) (x 8)) = true then true else false))
def f_X6_unsettled (x : Sy) : Bool := f_X6_unsettled_k30_2 x (if (f_X0_underWay (x 3) (x 4) (x 5)) = true then true else false)
theorem hd_X6_unsettled : yX6_unsettled.cls ≠ "java/lang/invoke/MethodHandle" ∧ yX6_unsettled.cls ≠ "java/lang/invoke/VarHandle" ∧ (parseMethodDescriptor yX6_unsettled.desc).map (fun d => d.parameters.length) = some 0 := by decide +kernel
set_option maxHeartbeats 4000000 in
set_option maxRecDepth 100000 in
theorem c_X6_unsettled (l : Launch) (D : va_G) (cI cZ cO : ClassId) (q : Nat → Nat) (x : Sy)  : CTi l D (T3 cI cZ cO) yX6_unsettled (Cond.code yX6_unsettled cX6_unsettled 3 (some .boolean) :: WA) ({ frames := 1, cells := 0, slots := 0, locals := 20 } : Room) [.ref (q 0)] (wLG cI cZ cO q x) (b2i (f_X6_unsettled x)) (wLG cI cZ cO q x) := by
  refine ct_i (K := fun z => z) (t := f_X6_unsettled x) (rf := fun o => b2i o) (wf := fun o => wLG cI cZ cO q x) (own := RX6) (nm := "unsettled") (L0 := [(0, .ref (q 0))]) (plainFor_of_name (by decide +kernel)) rfl rfl (Nat.le_of_ble_eq_true rfl) rfl ?_
  intro p e s m args below meth c A C
  unfold f_X6_unsettled
  refine x_iconst C 0 dX6_unsettled_0 (by decide) ?_
  refine x_istore_n (L' := [(1, .int 0), (0, .ref (q 0))]) C dX6_unsettled_1 (by decide) rfl ?_
  refine x_iconst C 0 dX6_unsettled_2 (by decide) ?_
  refine x_istore_n (L' := [(2, .int 0), (1, .int 0), (0, .ref (q 0))]) C dX6_unsettled_3 (by decide) rfl ?_
  refine x_iload_n C dX6_unsettled_4 0 rfl ?_
  refine x_iconst C 2 dX6_unsettled_5 (by decide) ?_
  refine x_icmp_ge_f C 37 dX6_unsettled_6 (by decide) (by decide) ?_
  refine x_iload_n C dX6_unsettled_9 1 rfl ?_
  refine x_if_ne_f C 25 dX6_unsettled_10 (by decide) (by decide) ?_
  refine x_aload_n C dX6_unsettled_13 2 rfl ?_
  refine x_get (v := .ref (q 1)) C hwsX60 2 mw_224 0 rfl rfl (by decide) rfl rfl dX6_unsettled_14 ?_
  refine x_iload_n C dX6_unsettled_17 0 rfl ?_
  refine x_aald C 1 2 rfl rfl 0 rfl (by decide) (by decide) rfl dX6_unsettled_18 ?_
  refine x_cVi (q0 := 11) (As := []) (ws' := wLG cI cZ cO q x) C mw_288 mw_289 mw_290 mw_46 mw_47 hd_X0_underWay rfl rfl ⟨Nat.le_of_ble_eq_true rfl, Nat.le_of_ble_eq_true rfl⟩ rfl rfl rfl (c_X0_underWay l D cI cZ cO (q 11) (q 12) (q 13) (q 14) (q 15) (q 16) (x 3) (x 4) (x 5) ) [11, 12, 13, 14, 15, 16] [.inl 0, .inl 1, .inl 2, .inl 3, .inl 4, .inl 5, .inl 6, .inl 7, .inl 8, .inl 9, .inl 10, .inr 0, .inr 1, .inr 2, .inr 3, .inr 4, .inr 5, .inl 17, .inl 18, .inl 19, .inl 20, .inl 21, .inl 22, .inl 23, .inl 24] ⟨rfl, rfl, rfl, rfl, rfl, rfl, trivial⟩ rfl ⟨rfl, rfl, rfl, rfl, rfl, rfl, rfl, rfl, rfl, rfl, rfl, rfl, rfl, rfl, rfl, rfl, rfl, rfl, rfl, rfl, rfl, rfl, rfl, rfl, rfl, trivial⟩ rfl ⟨rfl, rfl, rfl, rfl, rfl, rfl, rfl, rfl, rfl, rfl, rfl, rfl, rfl, rfl, rfl, rfl, rfl, rfl, rfl, rfl, rfl, rfl, rfl, rfl, rfl, trivial⟩ rfl rfl (Nat.le_of_ble_eq_true rfl) (Nat.zero_le _) (Nat.zero_le _) dX6_unsettled_19 ?_
  refine x_join (fun (b2 : Bool) => f_X6_unsettled_k30_2 x b2) 30 (fun (b2 : Bool) => [(0, .ref (q 0)), (1, .int 0), (2, .int 0)]) (fun (b2 : Bool) => [.int (b2i b2)]) (fun (b2 : Bool) => wLG cI cZ cO q x) (fun b2 => ?_) _ (fun J7 => ?_)
  · unfold f_X6_unsettled_k30_2
    refine x_istore_n (L' := [(1, .int (b2i b2)), (0, .ref (q 0)), (2, .int 0)]) C dX6_unsettled_30 (by decide) rfl ?_
    refine x_iinc (L' := [(2, .int 1), (1, .int (b2i b2)), (0, .ref (q 0))]) C 1 dX6_unsettled_31 2 rfl (by decide) (by decide) rfl ?_
    refine x_goto C 4 dX6_unsettled_34 (by decide) ?_
    refine x_iload_n C dX6_unsettled_4 0 rfl ?_
    refine x_iconst C 2 dX6_unsettled_5 (by decide) ?_
    refine x_icmp_ge_f C 37 dX6_unsettled_6 (by decide) (by decide) ?_
    refine x_iload_n C dX6_unsettled_9 1 rfl ?_
    refine x_join (fun (b4 : Bool) => f_X6_unsettled_k30 b4) 30 (fun (b4 : Bool) => [(0, .ref (q 0)), (1, .int (b2i b2)), (2, .int 1)]) (fun (b4 : Bool) => [.int (b2i b4)]) (fun (b4 : Bool) => wLG cI cZ cO q x) (fun b4 => ?_) _ (fun J5 => ?_)
    · unfold f_X6_unsettled_k30
      refine x_istore_n (L' := [(1, .int (b2i b4)), (0, .ref (q 0)), (2, .int 1)]) C dX6_unsettled_30 (by decide) rfl ?_
      refine x_iinc (L' := [(2, .int 2), (1, .int (b2i b4)), (0, .ref (q 0))]) C 2 dX6_unsettled_31 2 rfl (by decide) (by decide) rfl ?_
      refine x_goto C 4 dX6_unsettled_34 (by decide) ?_
      refine x_iload_n C dX6_unsettled_4 0 rfl ?_
      refine x_iconst C 2 dX6_unsettled_5 (by decide) ?_
      refine x_icmp_ge_t C 37 dX6_unsettled_6 (by decide) (by decide) ?_
      refine x_iload_n C dX6_unsettled_37 1 rfl ?_
      exact x_zret C rfl (nz_b _) dX6_unsettled_38 rfl rfl
    · refine x_if_neZ C 25 dX6_unsettled_10 (by decide) (fun c3 => ?_) (fun c3 => ?_)
      · refine x_iconst C 1 dX6_unsettled_25 (by decide) ?_
        refine x_goto C 30 dX6_unsettled_26 (by decide) ?_
        refine x_lsub (L' := [(0, .ref (q 0)), (1, .int (b2i b2)), (2, .int 1)]) [2, 1, 0] rfl ?_
        exact J5 true
      · refine x_aload_n C dX6_unsettled_13 2 rfl ?_
        refine x_get (v := .ref (q 1)) C hwsX60 2 mw_224 0 rfl rfl (by decide) rfl rfl dX6_unsettled_14 ?_
        refine x_iload_n C dX6_unsettled_17 0 rfl ?_
        refine x_aald C 1 2 rfl rfl 1 rfl (by decide) (by decide) rfl dX6_unsettled_18 ?_
        refine x_cVi (q0 := 17) (As := []) (ws' := wLG cI cZ cO q x) C mw_288 mw_289 mw_290 mw_46 mw_47 hd_X0_underWay rfl rfl ⟨Nat.le_of_ble_eq_true rfl, Nat.le_of_ble_eq_true rfl⟩ rfl rfl rfl (c_X0_underWay l D cI cZ cO (q 17) (q 18) (q 19) (q 20) (q 21) (q 22) (x 6) (x 7) (x 8) ) [17, 18, 19, 20, 21, 22] [.inl 0, .inl 1, .inl 2, .inl 3, .inl 4, .inl 5, .inl 6, .inl 7, .inl 8, .inl 9, .inl 10, .inl 11, .inl 12, .inl 13, .inl 14, .inl 15, .inl 16, .inr 0, .inr 1, .inr 2, .inr 3, .inr 4, .inr 5, .inl 23, .inl 24] ⟨rfl, rfl, rfl, rfl, rfl, rfl, trivial⟩ rfl ⟨rfl, rfl, rfl, rfl, rfl, rfl, rfl, rfl, rfl, rfl, rfl, rfl, rfl, rfl, rfl, rfl, rfl, rfl, rfl, rfl, rfl, rfl, rfl, rfl, rfl, trivial⟩ rfl ⟨rfl, rfl, rfl, rfl, rfl, rfl, rfl, rfl, rfl, rfl, rfl, rfl, rfl, rfl, rfl, rfl, rfl, rfl, rfl, rfl, rfl, rfl, rfl, rfl, rfl, trivial⟩ rfl rfl (Nat.le_of_ble_eq_true rfl) (Nat.zero_le _) (Nat.zero_le _) dX6_unsettled_19 ?_
        refine x_if_eqZ C 29 dX6_unsettled_22 (by decide) (fun c6 => ?_) (fun c6 => ?_)
        · refine x_iconst C 1 dX6_unsettled_25 (by decide) ?_
          refine x_goto C 30 dX6_unsettled_26 (by decide) ?_
          refine x_lsub (L' := [(0, .ref (q 0)), (1, .int (b2i b2)), (2, .int 1)]) [2, 1, 0] rfl ?_
          exact J5 true
        · refine x_iconst C 0 dX6_unsettled_29 (by decide) ?_
          refine x_lsub (L' := [(0, .ref (q 0)), (1, .int (b2i b2)), (2, .int 1)]) [2, 1, 0] rfl ?_
          exact J5 false
  · refine x_if_eqZ C 29 dX6_unsettled_22 (by decide) (fun c1 => ?_) (fun c1 => ?_)
    · refine x_iconst C 1 dX6_unsettled_25 (by decide) ?_
      refine x_goto C 30 dX6_unsettled_26 (by decide) ?_
      refine x_lsub (L' := [(0, .ref (q 0)), (1, .int 0), (2, .int 0)]) [2, 1, 0] rfl ?_
      exact J7 true
    · refine x_iconst C 0 dX6_unsettled_29 (by decide) ?_
      refine x_lsub (L' := [(0, .ref (q 0)), (1, .int 0), (2, .int 0)]) [2, 1, 0] rfl ?_
      exact J7 false

def f_X6_tick_k111 (b8 : Int32 × Sy) : Sy := upY b8.2 0 (put (b8.2 0) 5 0 b8.1)
def f_X6_tick_o96 (b6 : Int32 × Sy) (o10 : St × St × St × St) : Int32 × Sy := (b6.1 ||| (f_X0_shows o10.1 o10.2.1 o10.2.2.1), upY (upY (upY (upY b6.2 6 o10.1) 7 o10.2.1) 8 o10.2.2.1) 9 o10.2.2.2)
def f_X6_tick_k111_2 (b6 : Int32 × Sy) : Sy := f_X6_tick_k111 (if ((b6.2 6) 8 0) = 0 then (f_X6_tick_o96 b6 (f_X0_act (b6.2 6) (b6.2 7) (b6.2 8) (b6.2 2) (b6.2 9) ((b6.2 0) 4 0))) else (b6.1, b6.2))
def f_X6_tick_o96_2 (b2 : Sy) (o3 : St) (o4 : St) (o12 : St × St × St × St) : Int32 × Sy := (0 ||| (f_X0_shows o12.1 o12.2.1 o12.2.2.1), upY (upY (upY (upY (upY (upY (upY b2 0 (put (b2 0) 4 0 (((b2 0) 4 0) + 1))) 1 o3) 2 o4) 3 o12.1) 4 o12.2.1) 5 o12.2.2.1) 9 o12.2.2.2)
def f_X6_tick_o54 (b2 : Sy) (o3 : St) (o4 : St) : Sy := f_X6_tick_k111_2 (if ((b2 3) 8 0) = 0 then (f_X6_tick_o96_2 b2 o3 o4 (f_X0_act (b2 3) (b2 4) (b2 5) o4 (b2 9) (((b2 0) 4 0) + 1))) else (0, upY (upY (upY b2 0 (put (b2 0) 4 0 (((b2 0) 4 0) + 1))) 1 o3) 2 o4))
def f_X6_tick_o43 (b2 : Sy) (o3 : St) : Sy := f_X6_tick_o54 b2 o3 (f_X3_feel (b2 2) o3)
def f_X6_tick_k28 (x : Sy) (b2 : Sy) : Sy := f_X6_tick_o43 b2 (f_X2_move (b2 1) (f_X6_ordered x))
def f_X6_tick (x : Sy) : Sy := f_X6_tick_k28 x (if (f_X6_both (f_X6_ordered x) 1 2) = true then (upY x 0 (put (x 0) 6 0 1)) else (if (f_X6_both (f_X6_ordered x) 3 4) = true then (upY x 0 (put (x 0) 6 0 1)) else x))
theorem hd_X6_tick : yX6_tick.cls ≠ "java/lang/invoke/MethodHandle" ∧ yX6_tick.cls ≠ "java/lang/invoke/VarHandle" ∧ (parseMethodDescriptor yX6_tick.desc).map (fun d => d.parameters.length) = some 0 := by decide +kernel
set_option maxHeartbeats 4000000 in
set_option maxRecDepth 100000 in
theorem c_X6_tick (l : Launch) (D : va_G) (cI cZ cO : ClassId) (q : Nat → Nat) (x : Sy)  : CTv l D (T3 cI cZ cO) yX6_tick (Cond.code yX6_tick cX6_tick 4 none :: WA) ({ frames := 5, cells := 0, slots := 0, locals := 106 } : Room) [.ref (q 0)] (wLG cI cZ cO q x) (wLG cI cZ cO q (f_X6_tick x)) := by
  refine ct_v (K := fun z => z) (t := f_X6_tick x) (wf := fun o => wLG cI cZ cO q o) (own := RX6) (nm := "tick") (L0 := [(0, .ref (q 0))]) (plainFor_of_name (by decide +kernel)) rfl rfl (Nat.le_of_ble_eq_true rfl) rfl ?_
  intro p e s m args below meth c A C
  unfold f_X6_tick
  refine x_aload_n C dX6_tick_0 0 rfl ?_
  refine x_cViW (q0 := 0) (As := []) C mw_268 mw_269 mw_270 mw_37 mw_264 hd_X6_ordered rfl rfl ⟨Nat.le_of_ble_eq_true rfl, Nat.le_of_ble_eq_true rfl⟩ rfl rfl rfl (c_X6_ordered l D cI cZ cO q x ) rfl rfl (Nat.le_of_ble_eq_true rfl) (Nat.zero_le _) (Nat.zero_le _) dX6_tick_1 ?_
  refine x_istore_n (L' := [(1, .int (f_X6_ordered x)), (0, .ref (q 0))]) C dX6_tick_4 (by decide) rfl ?_
  refine x_iload_n C dX6_tick_5 0 rfl ?_
  refine x_iconst C 1 dX6_tick_6 (by decide) ?_
  refine x_iconst C 2 dX6_tick_7 (by decide) ?_
  refine x_cSi (As := [.int (f_X6_ordered x), .int 1, .int 2]) (ws' := wLG cI cZ cO q x) C mw_271 mw_272 mw_37 mw_266 hd_X6_both rfl rfl ⟨Nat.le_of_ble_eq_true rfl, Nat.le_of_ble_eq_true rfl⟩ (c_X6_both l D cI cZ cO  (f_X6_ordered x) 1 2 ) [] [.inl 0, .inl 1, .inl 2, .inl 3, .inl 4, .inl 5, .inl 6, .inl 7, .inl 8, .inl 9, .inl 10, .inl 11, .inl 12, .inl 13, .inl 14, .inl 15, .inl 16, .inl 17, .inl 18, .inl 19, .inl 20, .inl 21, .inl 22, .inl 23, .inl 24] trivial rfl ⟨rfl, rfl, rfl, rfl, rfl, rfl, rfl, rfl, rfl, rfl, rfl, rfl, rfl, rfl, rfl, rfl, rfl, rfl, rfl, rfl, rfl, rfl, rfl, rfl, rfl, trivial⟩ rfl ⟨rfl, rfl, rfl, rfl, rfl, rfl, rfl, rfl, rfl, rfl, rfl, rfl, rfl, rfl, rfl, rfl, rfl, rfl, rfl, rfl, rfl, rfl, rfl, rfl, rfl, trivial⟩ rfl rfl (Nat.le_of_ble_eq_true rfl) (Nat.zero_le _) (Nat.zero_le _) dX6_tick_8 ?_
  refine x_join (fun (b2 : Sy) => f_X6_tick_k28 x b2) 28 (fun (b2 : Sy) => [(0, .ref (q 0)), (1, .int (f_X6_ordered x))]) (fun (b2 : Sy) => []) (fun (b2 : Sy) => wLG cI cZ cO q b2) (fun b2 => ?_) _ (fun J13 => ?_)
  · unfold f_X6_tick_k28
    refine x_aload_n C dX6_tick_28 0 rfl ?_
    refine x_dup C dX6_tick_29 rfl ?_
    refine x_get (v := .int ((b2 0) 4 0)) C hwsX60 4 mw_229 0 rfl rfl (by decide) rfl rfl dX6_tick_30 ?_
    refine x_iconst C 1 dX6_tick_33 (by decide) ?_
    refine x_iadd C dX6_tick_34 ?_
    refine x_put (ws' := wLG cI cZ cO q (upY b2 0 (put (b2 0) 4 0 (((b2 0) 4 0) + 1)))) C hwsX60 tyX6 tyX6_ok nmX6 4 mw_229 0 rfl rfl (by decide) rfl rfl rfl rfl (Nat.le_of_ble_eq_true rfl) dX6_tick_35 rfl ?_
    refine x_aload_n C dX6_tick_38 0 rfl ?_
    refine x_get (v := .ref (q 2)) C hwsX60 0 mw_219 0 rfl rfl (by decide) rfl rfl dX6_tick_39 ?_
    refine x_iload_n C dX6_tick_42 1 rfl ?_
    refine x_cVv (q0 := 2) (As := [.int (f_X6_ordered x)]) (ws' := wLG cI cZ cO q (upY (upY b2 0 (put (b2 0) 4 0 (((b2 0) 4 0) + 1))) 1 (f_X2_move (b2 1) (f_X6_ordered x)))) C mw_273 mw_274 mw_275 mw_171 mw_206 hd_X2_move rfl rfl ⟨Nat.le_of_ble_eq_true rfl, Nat.le_of_ble_eq_true rfl⟩ rfl rfl rfl (c_X2_move l D cI cZ cO (q 2) (q 3) (q 4) (q 5) (q 6) (q 7) (b2 1) (f_X6_ordered x) ) [2, 3, 4, 5, 6, 7] [.inl 0, .inl 1, .inr 0, .inr 1, .inr 2, .inr 3, .inr 4, .inr 5, .inl 8, .inl 9, .inl 10, .inl 11, .inl 12, .inl 13, .inl 14, .inl 15, .inl 16, .inl 17, .inl 18, .inl 19, .inl 20, .inl 21, .inl 22, .inl 23, .inl 24] ⟨rfl, rfl, rfl, rfl, rfl, rfl, trivial⟩ rfl ⟨rfl, rfl, rfl, rfl, rfl, rfl, rfl, rfl, rfl, rfl, rfl, rfl, rfl, rfl, rfl, rfl, rfl, rfl, rfl, rfl, rfl, rfl, rfl, rfl, rfl, trivial⟩ rfl ⟨rfl, rfl, rfl, rfl, rfl, rfl, rfl, rfl, rfl, rfl, rfl, rfl, rfl, rfl, rfl, rfl, rfl, rfl, rfl, rfl, rfl, rfl, rfl, rfl, rfl, trivial⟩ rfl rfl (Nat.le_of_ble_eq_true rfl) (Nat.zero_le _) (Nat.zero_le _) dX6_tick_43 ?_
    unfold f_X6_tick_o43
    generalize f_X2_move (b2 1) (f_X6_ordered x) = o3
    refine x_aload_n C dX6_tick_46 0 rfl ?_
    refine x_get (v := .ref (q 8)) C hwsX60 1 mw_222 0 rfl rfl (by decide) rfl rfl dX6_tick_47 ?_
    refine x_aload_n C dX6_tick_50 0 rfl ?_
    refine x_get (v := .ref (q 2)) C hwsX60 0 mw_219 0 rfl rfl (by decide) rfl rfl dX6_tick_51 ?_
    refine x_cVv (q0 := 8) (As := [.ref (q 2)]) (ws' := wLG cI cZ cO q (upY (upY (upY b2 0 (put (b2 0) 4 0 (((b2 0) 4 0) + 1))) 1 o3) 2 (f_X3_feel (b2 2) o3))) C mw_236 mw_237 mw_238 mw_65 mw_209 hd_X3_feel rfl rfl ⟨Nat.le_of_ble_eq_true rfl, Nat.le_of_ble_eq_true rfl⟩ rfl rfl rfl (c_X3_feel l D cI cZ cO (q 8) (q 9) (q 10) (q 2) (q 3) (q 4) (q 5) (q 6) (q 7) (b2 2) o3 ) [8, 9, 10, 2, 3, 4, 5, 6, 7] [.inl 0, .inl 1, .inr 3, .inr 4, .inr 5, .inr 6, .inr 7, .inr 8, .inr 0, .inr 1, .inr 2, .inl 11, .inl 12, .inl 13, .inl 14, .inl 15, .inl 16, .inl 17, .inl 18, .inl 19, .inl 20, .inl 21, .inl 22, .inl 23, .inl 24] ⟨rfl, rfl, rfl, rfl, rfl, rfl, rfl, rfl, rfl, trivial⟩ rfl ⟨rfl, rfl, rfl, rfl, rfl, rfl, rfl, rfl, rfl, rfl, rfl, rfl, rfl, rfl, rfl, rfl, rfl, rfl, rfl, rfl, rfl, rfl, rfl, rfl, rfl, trivial⟩ rfl ⟨rfl, rfl, rfl, rfl, rfl, rfl, rfl, rfl, rfl, rfl, rfl, rfl, rfl, rfl, rfl, rfl, rfl, rfl, rfl, rfl, rfl, rfl, rfl, rfl, rfl, trivial⟩ rfl rfl (Nat.le_of_ble_eq_true rfl) (Nat.zero_le _) (Nat.zero_le _) dX6_tick_54 ?_
    unfold f_X6_tick_o54
    generalize f_X3_feel (b2 2) o3 = o4
    refine x_iconst C 0 dX6_tick_57 (by decide) ?_
    refine x_istore_n (L' := [(2, .int 0), (0, .ref (q 0)), (1, .int (f_X6_ordered x))]) C dX6_tick_58 (by decide) rfl ?_
    refine x_iconst C 0 dX6_tick_59 (by decide) ?_
    refine x_istore_n (L' := [(3, .int 0), (2, .int 0), (0, .ref (q 0)), (1, .int (f_X6_ordered x))]) C dX6_tick_60 (by decide) rfl ?_
    refine x_iload_n C dX6_tick_61 0 rfl ?_
    refine x_iconst C 2 dX6_tick_62 (by decide) ?_
    refine x_icmp_ge_f C 117 dX6_tick_63 (by decide) (by decide) ?_
    refine x_aload_n C dX6_tick_66 2 rfl ?_
    refine x_get (v := .ref (q 1)) C hwsX60 2 mw_224 0 rfl rfl (by decide) rfl rfl dX6_tick_67 ?_
    refine x_iload_n C dX6_tick_70 0 rfl ?_
    refine x_aald C 1 2 rfl rfl 0 rfl (by decide) (by decide) rfl dX6_tick_71 ?_
    refine x_get (v := .int ((b2 3) 8 0)) C hwsX00 8 mw_263 11 rfl rfl (by decide) rfl rfl dX6_tick_72 ?_
    refine x_join (fun (b6 : Int32 × Sy) => f_X6_tick_k111_2 b6) 111 (fun (b6 : Int32 × Sy) => [(0, .ref (q 0)), (1, .int (f_X6_ordered x)), (2, .int b6.1), (3, .int 0)]) (fun (b6 : Int32 × Sy) => []) (fun (b6 : Int32 × Sy) => wLG cI cZ cO q b6.2) (fun b6 => ?_) _ (fun J11 => ?_)
    · unfold f_X6_tick_k111_2
      refine x_iinc (L' := [(3, .int 1), (0, .ref (q 0)), (1, .int (f_X6_ordered x)), (2, .int b6.1)]) C 1 dX6_tick_111 3 rfl (by decide) (by decide) rfl ?_
      refine x_goto C 61 dX6_tick_114 (by decide) ?_
      refine x_iload_n C dX6_tick_61 0 rfl ?_
      refine x_iconst C 2 dX6_tick_62 (by decide) ?_
      refine x_icmp_ge_f C 117 dX6_tick_63 (by decide) (by decide) ?_
      refine x_aload_n C dX6_tick_66 1 rfl ?_
      refine x_get (v := .ref (q 1)) C hwsX60 2 mw_224 0 rfl rfl (by decide) rfl rfl dX6_tick_67 ?_
      refine x_iload_n C dX6_tick_70 0 rfl ?_
      refine x_aald C 1 2 rfl rfl 1 rfl (by decide) (by decide) rfl dX6_tick_71 ?_
      refine x_get (v := .int ((b6.2 6) 8 0)) C hwsX00 8 mw_263 17 rfl rfl (by decide) rfl rfl dX6_tick_72 ?_
      refine x_join (fun (b8 : Int32 × Sy) => f_X6_tick_k111 b8) 111 (fun (b8 : Int32 × Sy) => [(0, .ref (q 0)), (1, .int (f_X6_ordered x)), (2, .int b8.1), (3, .int 1)]) (fun (b8 : Int32 × Sy) => []) (fun (b8 : Int32 × Sy) => wLG cI cZ cO q b8.2) (fun b8 => ?_) _ (fun J9 => ?_)
      · unfold f_X6_tick_k111
        refine x_iinc (L' := [(3, .int 2), (0, .ref (q 0)), (1, .int (f_X6_ordered x)), (2, .int b8.1)]) C 2 dX6_tick_111 3 rfl (by decide) (by decide) rfl ?_
        refine x_goto C 61 dX6_tick_114 (by decide) ?_
        refine x_iload_n C dX6_tick_61 0 rfl ?_
        refine x_iconst C 2 dX6_tick_62 (by decide) ?_
        refine x_icmp_ge_t C 117 dX6_tick_63 (by decide) (by decide) ?_
        refine x_aload_n C dX6_tick_117 1 rfl ?_
        refine x_iload_n C dX6_tick_118 3 rfl ?_
        refine x_put (ws' := wLG cI cZ cO q (upY b8.2 0 (put (b8.2 0) 5 0 b8.1))) C hwsX60 tyX6 tyX6_ok nmX6 5 mw_230 0 rfl rfl (by decide) rfl rfl rfl rfl (Nat.le_of_ble_eq_true rfl) dX6_tick_119 rfl ?_
        exact x_vret C rfl dX6_tick_122 rfl
      · refine x_if_ne C 111 dX6_tick_75 (by decide) (fun c7 => ?_) (fun c7 => ?_)
        · refine x_aload_n C dX6_tick_78 1 rfl ?_
          refine x_get (v := .ref (q 1)) C hwsX60 2 mw_224 0 rfl rfl (by decide) rfl rfl dX6_tick_79 ?_
          refine x_iload_n C dX6_tick_82 0 rfl ?_
          refine x_aald C 1 2 rfl rfl 1 rfl (by decide) (by decide) rfl dX6_tick_83 ?_
          refine x_aload_n C dX6_tick_84 1 rfl ?_
          refine x_get (v := .ref (q 8)) C hwsX60 1 mw_222 0 rfl rfl (by decide) rfl rfl dX6_tick_85 ?_
          refine x_aload_n C dX6_tick_88 1 rfl ?_
          refine x_get (v := .ref (q 23)) C hwsX60 3 mw_228 0 rfl rfl (by decide) rfl rfl dX6_tick_89 ?_
          refine x_aload_n C dX6_tick_92 1 rfl ?_
          refine x_get (v := .int ((b6.2 0) 4 0)) C hwsX60 4 mw_229 0 rfl rfl (by decide) rfl rfl dX6_tick_93 ?_
          refine x_cVv (q0 := 17) (As := [.ref (q 8), .ref (q 23), .int ((b6.2 0) 4 0)]) (ws' := wLG cI cZ cO q (upY (upY (upY (upY b6.2 6 ((f_X0_act (b6.2 6) (b6.2 7) (b6.2 8) (b6.2 2) (b6.2 9) ((b6.2 0) 4 0)).1)) 7 ((f_X0_act (b6.2 6) (b6.2 7) (b6.2 8) (b6.2 2) (b6.2 9) ((b6.2 0) 4 0)).2.1)) 8 ((f_X0_act (b6.2 6) (b6.2 7) (b6.2 8) (b6.2 2) (b6.2 9) ((b6.2 0) 4 0)).2.2.1)) 9 ((f_X0_act (b6.2 6) (b6.2 7) (b6.2 8) (b6.2 2) (b6.2 9) ((b6.2 0) 4 0)).2.2.2))) C mw_276 mw_277 mw_278 mw_46 mw_151 hd_X0_act rfl rfl ⟨Nat.le_of_ble_eq_true rfl, Nat.le_of_ble_eq_true rfl⟩ rfl rfl rfl (c_X0_act l D cI cZ cO (q 17) (q 18) (q 19) (q 20) (q 21) (q 22) (q 8) (q 9) (q 10) (q 23) (q 24) (b6.2 6) (b6.2 7) (b6.2 8) (b6.2 2) (b6.2 9) ((b6.2 0) 4 0) ) [17, 18, 19, 20, 21, 22, 8, 9, 10, 23, 24] [.inl 0, .inl 1, .inl 2, .inl 3, .inl 4, .inl 5, .inl 6, .inl 7, .inr 6, .inr 7, .inr 8, .inl 11, .inl 12, .inl 13, .inl 14, .inl 15, .inl 16, .inr 0, .inr 1, .inr 2, .inr 3, .inr 4, .inr 5, .inr 9, .inr 10] ⟨rfl, rfl, rfl, rfl, rfl, rfl, rfl, rfl, rfl, rfl, rfl, trivial⟩ rfl ⟨rfl, rfl, rfl, rfl, rfl, rfl, rfl, rfl, rfl, rfl, rfl, rfl, rfl, rfl, rfl, rfl, rfl, rfl, rfl, rfl, rfl, rfl, rfl, rfl, rfl, trivial⟩ rfl ⟨rfl, rfl, rfl, rfl, rfl, rfl, rfl, rfl, rfl, rfl, rfl, rfl, rfl, rfl, rfl, rfl, rfl, rfl, rfl, rfl, rfl, rfl, rfl, rfl, rfl, trivial⟩ rfl rfl (Nat.le_of_ble_eq_true rfl) (Nat.zero_le _) (Nat.zero_le _) dX6_tick_96 ?_
          unfold f_X6_tick_o96
          generalize f_X0_act (b6.2 6) (b6.2 7) (b6.2 8) (b6.2 2) (b6.2 9) ((b6.2 0) 4 0) = o10
          refine x_lsub (L' := [(0, .ref (q 0)), (1, .int (f_X6_ordered x)), (2, .int b6.1), (3, .int 1)]) [1, 2, 3, 0] rfl ?_
          refine x_iload_n C dX6_tick_99 2 rfl ?_
          refine x_aload_n C dX6_tick_100 0 rfl ?_
          refine x_get (v := .ref (q 1)) C hwsX60 2 mw_224 0 rfl rfl (by decide) rfl rfl dX6_tick_101 ?_
          refine x_iload_n C dX6_tick_104 3 rfl ?_
          refine x_aald C 1 2 rfl rfl 1 rfl (by decide) (by decide) rfl dX6_tick_105 ?_
          refine x_cVi (q0 := 17) (As := []) (ws' := wLG cI cZ cO q (upY (upY (upY (upY b6.2 6 o10.1) 7 o10.2.1) 8 o10.2.2.1) 9 o10.2.2.2)) C mw_279 mw_280 mw_281 mw_46 mw_51 hd_X0_shows rfl rfl ⟨Nat.le_of_ble_eq_true rfl, Nat.le_of_ble_eq_true rfl⟩ rfl rfl rfl (c_X0_shows l D cI cZ cO (q 17) (q 18) (q 19) (q 20) (q 21) (q 22) o10.1 o10.2.1 o10.2.2.1 ) [17, 18, 19, 20, 21, 22] [.inl 0, .inl 1, .inl 2, .inl 3, .inl 4, .inl 5, .inl 6, .inl 7, .inl 8, .inl 9, .inl 10, .inl 11, .inl 12, .inl 13, .inl 14, .inl 15, .inl 16, .inr 0, .inr 1, .inr 2, .inr 3, .inr 4, .inr 5, .inl 23, .inl 24] ⟨rfl, rfl, rfl, rfl, rfl, rfl, trivial⟩ rfl ⟨rfl, rfl, rfl, rfl, rfl, rfl, rfl, rfl, rfl, rfl, rfl, rfl, rfl, rfl, rfl, rfl, rfl, rfl, rfl, rfl, rfl, rfl, rfl, rfl, rfl, trivial⟩ rfl ⟨rfl, rfl, rfl, rfl, rfl, rfl, rfl, rfl, rfl, rfl, rfl, rfl, rfl, rfl, rfl, rfl, rfl, rfl, rfl, rfl, rfl, rfl, rfl, rfl, rfl, trivial⟩ rfl rfl (Nat.le_of_ble_eq_true rfl) (Nat.zero_le _) (Nat.zero_le _) dX6_tick_106 ?_
          refine x_ior C dX6_tick_109 ?_
          refine x_istore_n (L' := [(2, .int (b6.1 ||| (f_X0_shows o10.1 o10.2.1 o10.2.2.1))), (0, .ref (q 0)), (1, .int (f_X6_ordered x)), (3, .int 1)]) C dX6_tick_110 (by decide) rfl ?_
          refine x_lsub (L' := [(0, .ref (q 0)), (1, .int (f_X6_ordered x)), (2, .int (b6.1 ||| (f_X0_shows o10.1 o10.2.1 o10.2.2.1))), (3, .int 1)]) [1, 2, 0, 3] rfl ?_
          exact J9 (b6.1 ||| (f_X0_shows o10.1 o10.2.1 o10.2.2.1), upY (upY (upY (upY b6.2 6 o10.1) 7 o10.2.1) 8 o10.2.2.1) 9 o10.2.2.2)
        · refine x_lsub (L' := [(0, .ref (q 0)), (1, .int (f_X6_ordered x)), (2, .int b6.1), (3, .int 1)]) [1, 2, 3, 0] rfl ?_
          exact J9 (b6.1, b6.2)
    · refine x_if_ne C 111 dX6_tick_75 (by decide) (fun c5 => ?_) (fun c5 => ?_)
      · refine x_aload_n C dX6_tick_78 2 rfl ?_
        refine x_get (v := .ref (q 1)) C hwsX60 2 mw_224 0 rfl rfl (by decide) rfl rfl dX6_tick_79 ?_
        refine x_iload_n C dX6_tick_82 0 rfl ?_
        refine x_aald C 1 2 rfl rfl 0 rfl (by decide) (by decide) rfl dX6_tick_83 ?_
        refine x_aload_n C dX6_tick_84 2 rfl ?_
        refine x_get (v := .ref (q 8)) C hwsX60 1 mw_222 0 rfl rfl (by decide) rfl rfl dX6_tick_85 ?_
        refine x_aload_n C dX6_tick_88 2 rfl ?_
        refine x_get (v := .ref (q 23)) C hwsX60 3 mw_228 0 rfl rfl (by decide) rfl rfl dX6_tick_89 ?_
        refine x_aload_n C dX6_tick_92 2 rfl ?_
        refine x_get (v := .int (((b2 0) 4 0) + 1)) C hwsX60 4 mw_229 0 rfl rfl (by decide) rfl rfl dX6_tick_93 ?_
        refine x_cVv (q0 := 11) (As := [.ref (q 8), .ref (q 23), .int (((b2 0) 4 0) + 1)]) (ws' := wLG cI cZ cO q (upY (upY (upY (upY (upY (upY (upY b2 0 (put (b2 0) 4 0 (((b2 0) 4 0) + 1))) 1 o3) 2 o4) 3 ((f_X0_act (b2 3) (b2 4) (b2 5) o4 (b2 9) (((b2 0) 4 0) + 1)).1)) 4 ((f_X0_act (b2 3) (b2 4) (b2 5) o4 (b2 9) (((b2 0) 4 0) + 1)).2.1)) 5 ((f_X0_act (b2 3) (b2 4) (b2 5) o4 (b2 9) (((b2 0) 4 0) + 1)).2.2.1)) 9 ((f_X0_act (b2 3) (b2 4) (b2 5) o4 (b2 9) (((b2 0) 4 0) + 1)).2.2.2))) C mw_276 mw_277 mw_278 mw_46 mw_151 hd_X0_act rfl rfl ⟨Nat.le_of_ble_eq_true rfl, Nat.le_of_ble_eq_true rfl⟩ rfl rfl rfl (c_X0_act l D cI cZ cO (q 11) (q 12) (q 13) (q 14) (q 15) (q 16) (q 8) (q 9) (q 10) (q 23) (q 24) (b2 3) (b2 4) (b2 5) o4 (b2 9) (((b2 0) 4 0) + 1) ) [11, 12, 13, 14, 15, 16, 8, 9, 10, 23, 24] [.inl 0, .inl 1, .inl 2, .inl 3, .inl 4, .inl 5, .inl 6, .inl 7, .inr 6, .inr 7, .inr 8, .inr 0, .inr 1, .inr 2, .inr 3, .inr 4, .inr 5, .inl 17, .inl 18, .inl 19, .inl 20, .inl 21, .inl 22, .inr 9, .inr 10] ⟨rfl, rfl, rfl, rfl, rfl, rfl, rfl, rfl, rfl, rfl, rfl, trivial⟩ rfl ⟨rfl, rfl, rfl, rfl, rfl, rfl, rfl, rfl, rfl, rfl, rfl, rfl, rfl, rfl, rfl, rfl, rfl, rfl, rfl, rfl, rfl, rfl, rfl, rfl, rfl, trivial⟩ rfl ⟨rfl, rfl, rfl, rfl, rfl, rfl, rfl, rfl, rfl, rfl, rfl, rfl, rfl, rfl, rfl, rfl, rfl, rfl, rfl, rfl, rfl, rfl, rfl, rfl, rfl, trivial⟩ rfl rfl (Nat.le_of_ble_eq_true rfl) (Nat.zero_le _) (Nat.zero_le _) dX6_tick_96 ?_
        unfold f_X6_tick_o96_2
        generalize f_X0_act (b2 3) (b2 4) (b2 5) o4 (b2 9) (((b2 0) 4 0) + 1) = o12
        refine x_lsub (L' := [(0, .ref (q 0)), (1, .int (f_X6_ordered x)), (2, .int 0), (3, .int 0)]) [2, 3, 1, 0] rfl ?_
        refine x_iload_n C dX6_tick_99 2 rfl ?_
        refine x_aload_n C dX6_tick_100 0 rfl ?_
        refine x_get (v := .ref (q 1)) C hwsX60 2 mw_224 0 rfl rfl (by decide) rfl rfl dX6_tick_101 ?_
        refine x_iload_n C dX6_tick_104 3 rfl ?_
        refine x_aald C 1 2 rfl rfl 0 rfl (by decide) (by decide) rfl dX6_tick_105 ?_
        refine x_cVi (q0 := 11) (As := []) (ws' := wLG cI cZ cO q (upY (upY (upY (upY (upY (upY (upY b2 0 (put (b2 0) 4 0 (((b2 0) 4 0) + 1))) 1 o3) 2 o4) 3 o12.1) 4 o12.2.1) 5 o12.2.2.1) 9 o12.2.2.2)) C mw_279 mw_280 mw_281 mw_46 mw_51 hd_X0_shows rfl rfl ⟨Nat.le_of_ble_eq_true rfl, Nat.le_of_ble_eq_true rfl⟩ rfl rfl rfl (c_X0_shows l D cI cZ cO (q 11) (q 12) (q 13) (q 14) (q 15) (q 16) o12.1 o12.2.1 o12.2.2.1 ) [11, 12, 13, 14, 15, 16] [.inl 0, .inl 1, .inl 2, .inl 3, .inl 4, .inl 5, .inl 6, .inl 7, .inl 8, .inl 9, .inl 10, .inr 0, .inr 1, .inr 2, .inr 3, .inr 4, .inr 5, .inl 17, .inl 18, .inl 19, .inl 20, .inl 21, .inl 22, .inl 23, .inl 24] ⟨rfl, rfl, rfl, rfl, rfl, rfl, trivial⟩ rfl ⟨rfl, rfl, rfl, rfl, rfl, rfl, rfl, rfl, rfl, rfl, rfl, rfl, rfl, rfl, rfl, rfl, rfl, rfl, rfl, rfl, rfl, rfl, rfl, rfl, rfl, trivial⟩ rfl ⟨rfl, rfl, rfl, rfl, rfl, rfl, rfl, rfl, rfl, rfl, rfl, rfl, rfl, rfl, rfl, rfl, rfl, rfl, rfl, rfl, rfl, rfl, rfl, rfl, rfl, trivial⟩ rfl rfl (Nat.le_of_ble_eq_true rfl) (Nat.zero_le _) (Nat.zero_le _) dX6_tick_106 ?_
        refine x_ior C dX6_tick_109 ?_
        refine x_istore_n (L' := [(2, .int (0 ||| (f_X0_shows o12.1 o12.2.1 o12.2.2.1))), (0, .ref (q 0)), (1, .int (f_X6_ordered x)), (3, .int 0)]) C dX6_tick_110 (by decide) rfl ?_
        refine x_lsub (L' := [(0, .ref (q 0)), (1, .int (f_X6_ordered x)), (2, .int (0 ||| (f_X0_shows o12.1 o12.2.1 o12.2.2.1))), (3, .int 0)]) [1, 2, 0, 3] rfl ?_
        exact J11 (0 ||| (f_X0_shows o12.1 o12.2.1 o12.2.2.1), upY (upY (upY (upY (upY (upY (upY b2 0 (put (b2 0) 4 0 (((b2 0) 4 0) + 1))) 1 o3) 2 o4) 3 o12.1) 4 o12.2.1) 5 o12.2.2.1) 9 o12.2.2.2)
      · refine x_lsub (L' := [(0, .ref (q 0)), (1, .int (f_X6_ordered x)), (2, .int 0), (3, .int 0)]) [2, 3, 1, 0] rfl ?_
        exact J11 (0, upY (upY (upY b2 0 (put (b2 0) 4 0 (((b2 0) 4 0) + 1))) 1 o3) 2 o4)
  · refine x_if_neZ C 23 dX6_tick_11 (by decide) (fun c1 => ?_) (fun c1 => ?_)
    · refine x_aload_n C dX6_tick_23 1 rfl ?_
      refine x_iconst C 1 dX6_tick_24 (by decide) ?_
      refine x_put (ws' := wLG cI cZ cO q (upY x 0 (put (x 0) 6 0 1))) C hwsX60 tyX6 tyX6_ok nmX6 6 mw_231 0 rfl rfl (by decide) rfl rfl (by decide) (by decide) (Nat.le_of_ble_eq_true rfl) dX6_tick_25 rfl ?_
      refine x_lsub (L' := [(0, .ref (q 0)), (1, .int (f_X6_ordered x))]) [1, 0] rfl ?_
      exact J13 (upY x 0 (put (x 0) 6 0 1))
    · refine x_iload_n C dX6_tick_14 0 rfl ?_
      refine x_iconst C 3 dX6_tick_15 (by decide) ?_
      refine x_iconst C 4 dX6_tick_16 (by decide) ?_
      refine x_cSi (As := [.int (f_X6_ordered x), .int 3, .int 4]) (ws' := wLG cI cZ cO q x) C mw_271 mw_272 mw_37 mw_266 hd_X6_both rfl rfl ⟨Nat.le_of_ble_eq_true rfl, Nat.le_of_ble_eq_true rfl⟩ (c_X6_both l D cI cZ cO  (f_X6_ordered x) 3 4 ) [] [.inl 0, .inl 1, .inl 2, .inl 3, .inl 4, .inl 5, .inl 6, .inl 7, .inl 8, .inl 9, .inl 10, .inl 11, .inl 12, .inl 13, .inl 14, .inl 15, .inl 16, .inl 17, .inl 18, .inl 19, .inl 20, .inl 21, .inl 22, .inl 23, .inl 24] trivial rfl ⟨rfl, rfl, rfl, rfl, rfl, rfl, rfl, rfl, rfl, rfl, rfl, rfl, rfl, rfl, rfl, rfl, rfl, rfl, rfl, rfl, rfl, rfl, rfl, rfl, rfl, trivial⟩ rfl ⟨rfl, rfl, rfl, rfl, rfl, rfl, rfl, rfl, rfl, rfl, rfl, rfl, rfl, rfl, rfl, rfl, rfl, rfl, rfl, rfl, rfl, rfl, rfl, rfl, rfl, trivial⟩ rfl rfl (Nat.le_of_ble_eq_true rfl) (Nat.zero_le _) (Nat.zero_le _) dX6_tick_17 ?_
      refine x_if_eqZ C 28 dX6_tick_20 (by decide) (fun c14 => ?_) (fun c14 => ?_)
      · refine x_aload_n C dX6_tick_23 1 rfl ?_
        refine x_iconst C 1 dX6_tick_24 (by decide) ?_
        refine x_put (ws' := wLG cI cZ cO q (upY x 0 (put (x 0) 6 0 1))) C hwsX60 tyX6 tyX6_ok nmX6 6 mw_231 0 rfl rfl (by decide) rfl rfl (by decide) (by decide) (Nat.le_of_ble_eq_true rfl) dX6_tick_25 rfl ?_
        refine x_lsub (L' := [(0, .ref (q 0)), (1, .int (f_X6_ordered x))]) [1, 0] rfl ?_
        exact J13 (upY x 0 (put (x 0) 6 0 1))
      · refine x_lsub (L' := [(0, .ref (q 0)), (1, .int (f_X6_ordered x))]) [1, 0] rfl ?_
        exact J13 x

def f_X6_handle (x : Sy) (xd : Int32) : Int32 × Sy := if (f_X6_outside xd 1) = true then ((-2), x) else ((f_X2_moveHandle (x 1) xd).1, upY x 1 ((f_X2_moveHandle (x 1) xd).2))
theorem hd_X6_handle : yX6_handle.cls ≠ "java/lang/invoke/MethodHandle" ∧ yX6_handle.cls ≠ "java/lang/invoke/VarHandle" ∧ (parseMethodDescriptor yX6_handle.desc).map (fun d => d.parameters.length) = some 1 := by decide +kernel
set_option maxHeartbeats 4000000 in
set_option maxRecDepth 100000 in
theorem c_X6_handle (l : Launch) (D : va_G) (cI cZ cO : ClassId) (q : Nat → Nat) (x : Sy) (xd : Int32)  : CTi l D (T3 cI cZ cO) yX6_handle (Cond.code yX6_handle cX6_handle 2 (some .int) :: WA) ({ frames := 1, cells := 0, slots := 0, locals := 22 } : Room) [.ref (q 0), .int xd] (wLG cI cZ cO q x) ((f_X6_handle x xd).1) (wLG cI cZ cO q (f_X6_handle x xd).2) := by
  refine ct_i (K := fun z => z) (t := f_X6_handle x xd) (rf := fun o => o.1) (wf := fun o => wLG cI cZ cO q o.2) (own := RX6) (nm := "handle") (L0 := [(0, .ref (q 0)), (1, .int xd)]) (plainFor_of_name (by decide +kernel)) rfl rfl (Nat.le_of_ble_eq_true rfl) rfl ?_
  intro p e s m args below meth c A C
  unfold f_X6_handle
  refine x_iload_n C dX6_handle_0 1 rfl ?_
  refine x_iconst C 1 dX6_handle_1 (by decide) ?_
  refine x_cSi (As := [.int xd, .int 1]) (ws' := wLG cI cZ cO q x) C mw_245 mw_36 mw_37 mw_34 hd_X6_outside rfl rfl ⟨Nat.le_of_ble_eq_true rfl, Nat.le_of_ble_eq_true rfl⟩ (c_X6_outside l D cI cZ cO  xd 1 ) [] [.inl 0, .inl 1, .inl 2, .inl 3, .inl 4, .inl 5, .inl 6, .inl 7, .inl 8, .inl 9, .inl 10, .inl 11, .inl 12, .inl 13, .inl 14, .inl 15, .inl 16, .inl 17, .inl 18, .inl 19, .inl 20, .inl 21, .inl 22, .inl 23, .inl 24] trivial rfl ⟨rfl, rfl, rfl, rfl, rfl, rfl, rfl, rfl, rfl, rfl, rfl, rfl, rfl, rfl, rfl, rfl, rfl, rfl, rfl, rfl, rfl, rfl, rfl, rfl, rfl, trivial⟩ rfl ⟨rfl, rfl, rfl, rfl, rfl, rfl, rfl, rfl, rfl, rfl, rfl, rfl, rfl, rfl, rfl, rfl, rfl, rfl, rfl, rfl, rfl, rfl, rfl, rfl, rfl, trivial⟩ rfl rfl (Nat.le_of_ble_eq_true rfl) (Nat.zero_le _) (Nat.zero_le _) dX6_handle_2 ?_
  refine x_if_eqZ C 13 dX6_handle_5 (by decide) (fun c1 => ?_) (fun c1 => ?_)
  · refine x_bipush C (-2) dX6_handle_8 (by decide) ?_
    refine x_goto C 21 dX6_handle_10 (by decide) ?_
    exact x_iret C rfl dX6_handle_21 rfl rfl
  · refine x_aload_n C dX6_handle_13 0 rfl ?_
    refine x_get (v := .ref (q 2)) C hwsX60 0 mw_219 0 rfl rfl (by decide) rfl rfl dX6_handle_14 ?_
    refine x_iload_n C dX6_handle_17 1 rfl ?_
    refine x_cVi (q0 := 2) (As := [.int xd]) (ws' := wLG cI cZ cO q (upY x 1 ((f_X2_moveHandle (x 1) xd).2))) C mw_246 mw_247 mw_248 mw_171 mw_176 hd_X2_moveHandle rfl rfl ⟨Nat.le_of_ble_eq_true rfl, Nat.le_of_ble_eq_true rfl⟩ rfl rfl rfl (c_X2_moveHandle l D cI cZ cO (q 2) (q 3) (q 4) (q 5) (q 6) (q 7) (x 1) xd ) [2, 3, 4, 5, 6, 7] [.inl 0, .inl 1, .inr 0, .inr 1, .inr 2, .inr 3, .inr 4, .inr 5, .inl 8, .inl 9, .inl 10, .inl 11, .inl 12, .inl 13, .inl 14, .inl 15, .inl 16, .inl 17, .inl 18, .inl 19, .inl 20, .inl 21, .inl 22, .inl 23, .inl 24] ⟨rfl, rfl, rfl, rfl, rfl, rfl, trivial⟩ rfl ⟨rfl, rfl, rfl, rfl, rfl, rfl, rfl, rfl, rfl, rfl, rfl, rfl, rfl, rfl, rfl, rfl, rfl, rfl, rfl, rfl, rfl, rfl, rfl, rfl, rfl, trivial⟩ rfl ⟨rfl, rfl, rfl, rfl, rfl, rfl, rfl, rfl, rfl, rfl, rfl, rfl, rfl, rfl, rfl, rfl, rfl, rfl, rfl, rfl, rfl, rfl, rfl, rfl, rfl, trivial⟩ rfl rfl (Nat.le_of_ble_eq_true rfl) (Nat.zero_le _) (Nat.zero_le _) dX6_handle_18 ?_
    exact x_iret C rfl dX6_handle_21 rfl rfl

def f_X6_ground (x : Sy) (xb : Int32) : Int32 × Sy := if (f_X6_outside xb 7) = true then ((-2), x) else ((x 1) 9 0, upY x 1 (put (x 1) 9 0 xb))
theorem hd_X6_ground : yX6_ground.cls ≠ "java/lang/invoke/MethodHandle" ∧ yX6_ground.cls ≠ "java/lang/invoke/VarHandle" ∧ (parseMethodDescriptor yX6_ground.desc).map (fun d => d.parameters.length) = some 1 := by decide +kernel
set_option maxHeartbeats 4000000 in
set_option maxRecDepth 100000 in
theorem c_X6_ground (l : Launch) (D : va_G) (cI cZ cO : ClassId) (q : Nat → Nat) (x : Sy) (xb : Int32)  : CTi l D (T3 cI cZ cO) yX6_ground (Cond.code yX6_ground cX6_ground 3 (some .int) :: WA) ({ frames := 1, cells := 0, slots := 0, locals := 21 } : Room) [.ref (q 0), .int xb] (wLG cI cZ cO q x) ((f_X6_ground x xb).1) (wLG cI cZ cO q (f_X6_ground x xb).2) := by
  refine ct_i (K := fun z => z) (t := f_X6_ground x xb) (rf := fun o => o.1) (wf := fun o => wLG cI cZ cO q o.2) (own := RX6) (nm := "ground") (L0 := [(0, .ref (q 0)), (1, .int xb)]) (plainFor_of_name (by decide +kernel)) rfl rfl (Nat.le_of_ble_eq_true rfl) rfl ?_
  intro p e s m args below meth c A C
  unfold f_X6_ground
  refine x_iload_n C dX6_ground_0 1 rfl ?_
  refine x_bipush C 7 dX6_ground_1 (by decide) ?_
  refine x_cSi (As := [.int xb, .int 7]) (ws' := wLG cI cZ cO q x) C mw_245 mw_36 mw_37 mw_34 hd_X6_outside rfl rfl ⟨Nat.le_of_ble_eq_true rfl, Nat.le_of_ble_eq_true rfl⟩ (c_X6_outside l D cI cZ cO  xb 7 ) [] [.inl 0, .inl 1, .inl 2, .inl 3, .inl 4, .inl 5, .inl 6, .inl 7, .inl 8, .inl 9, .inl 10, .inl 11, .inl 12, .inl 13, .inl 14, .inl 15, .inl 16, .inl 17, .inl 18, .inl 19, .inl 20, .inl 21, .inl 22, .inl 23, .inl 24] trivial rfl ⟨rfl, rfl, rfl, rfl, rfl, rfl, rfl, rfl, rfl, rfl, rfl, rfl, rfl, rfl, rfl, rfl, rfl, rfl, rfl, rfl, rfl, rfl, rfl, rfl, rfl, trivial⟩ rfl ⟨rfl, rfl, rfl, rfl, rfl, rfl, rfl, rfl, rfl, rfl, rfl, rfl, rfl, rfl, rfl, rfl, rfl, rfl, rfl, rfl, rfl, rfl, rfl, rfl, rfl, trivial⟩ rfl rfl (Nat.le_of_ble_eq_true rfl) (Nat.zero_le _) (Nat.zero_le _) dX6_ground_3 ?_
  refine x_if_eqZ C 12 dX6_ground_6 (by decide) (fun c1 => ?_) (fun c1 => ?_)
  · refine x_bipush C (-2) dX6_ground_9 (by decide) ?_
    exact x_iret C rfl dX6_ground_11 rfl rfl
  · refine x_aload_n C dX6_ground_12 0 rfl ?_
    refine x_get (v := .ref (q 2)) C hwsX60 0 mw_219 0 rfl rfl (by decide) rfl rfl dX6_ground_13 ?_
    refine x_get (v := .int ((x 1) 9 0)) C hwsX20 9 mw_250 2 rfl rfl (by decide) rfl rfl dX6_ground_16 ?_
    refine x_istore_n (L' := [(2, .int ((x 1) 9 0)), (0, .ref (q 0)), (1, .int xb)]) C dX6_ground_19 (by decide) rfl ?_
    refine x_aload_n C dX6_ground_20 1 rfl ?_
    refine x_get (v := .ref (q 2)) C hwsX60 0 mw_219 0 rfl rfl (by decide) rfl rfl dX6_ground_21 ?_
    refine x_iload_n C dX6_ground_24 2 rfl ?_
    refine x_put (ws' := wLG cI cZ cO q (upY x 1 (put (x 1) 9 0 xb))) C hwsX20 tyX2 tyX2_ok nmX2 9 mw_250 2 rfl rfl (by decide) rfl rfl rfl rfl (Nat.le_of_ble_eq_true rfl) dX6_ground_25 rfl ?_
    refine x_iload_n C dX6_ground_28 0 rfl ?_
    exact x_iret C rfl dX6_ground_29 rfl rfl

def f_X6_channel (x : Sy) (xs : Int32) (xc : Int32) (xf : Int32) : Int32 × Sy := if (f_X6_outside xs 17) = true then ((-2), x) else (if (f_X6_outside xc 2) = true then ((-2), x) else (if (f_X6_outside xf 3) = true then ((-2), x) else ((x 2) 1 (((ixn xs) * 3) + (ixn xc)), upY x 2 (put (x 2) 1 (((ixn xs) * 3) + (ixn xc)) xf))))
theorem hd_X6_channel : yX6_channel.cls ≠ "java/lang/invoke/MethodHandle" ∧ yX6_channel.cls ≠ "java/lang/invoke/VarHandle" ∧ (parseMethodDescriptor yX6_channel.desc).map (fun d => d.parameters.length) = some 3 := by decide +kernel
set_option maxHeartbeats 4000000 in
set_option maxRecDepth 100000 in
theorem c_X6_channel (l : Launch) (D : va_G) (cI cZ cO : ClassId) (q : Nat → Nat) (x : Sy) (xs : Int32) (xc : Int32) (xf : Int32)  : CTi l D (T3 cI cZ cO) yX6_channel (Cond.code yX6_channel cX6_channel 4 (some .int) :: WA) ({ frames := 1, cells := 0, slots := 0, locals := 23 } : Room) [.ref (q 0), .int xs, .int xc, .int xf] (wLG cI cZ cO q x) ((f_X6_channel x xs xc xf).1) (wLG cI cZ cO q (f_X6_channel x xs xc xf).2) := by
  refine ct_i (K := fun z => z) (t := f_X6_channel x xs xc xf) (rf := fun o => o.1) (wf := fun o => wLG cI cZ cO q o.2) (own := RX6) (nm := "channel") (L0 := [(0, .ref (q 0)), (1, .int xs), (2, .int xc), (3, .int xf)]) (plainFor_of_name (by decide +kernel)) rfl rfl (Nat.le_of_ble_eq_true rfl) rfl ?_
  intro p e s m args below meth c A C
  unfold f_X6_channel
  refine x_iload_n C dX6_channel_0 1 rfl ?_
  refine x_bipush C 17 dX6_channel_1 (by decide) ?_
  refine x_cSi (As := [.int xs, .int 17]) (ws' := wLG cI cZ cO q x) C mw_245 mw_36 mw_37 mw_34 hd_X6_outside rfl rfl ⟨Nat.le_of_ble_eq_true rfl, Nat.le_of_ble_eq_true rfl⟩ (c_X6_outside l D cI cZ cO  xs 17 ) [] [.inl 0, .inl 1, .inl 2, .inl 3, .inl 4, .inl 5, .inl 6, .inl 7, .inl 8, .inl 9, .inl 10, .inl 11, .inl 12, .inl 13, .inl 14, .inl 15, .inl 16, .inl 17, .inl 18, .inl 19, .inl 20, .inl 21, .inl 22, .inl 23, .inl 24] trivial rfl ⟨rfl, rfl, rfl, rfl, rfl, rfl, rfl, rfl, rfl, rfl, rfl, rfl, rfl, rfl, rfl, rfl, rfl, rfl, rfl, rfl, rfl, rfl, rfl, rfl, rfl, trivial⟩ rfl ⟨rfl, rfl, rfl, rfl, rfl, rfl, rfl, rfl, rfl, rfl, rfl, rfl, rfl, rfl, rfl, rfl, rfl, rfl, rfl, rfl, rfl, rfl, rfl, rfl, rfl, trivial⟩ rfl rfl (Nat.le_of_ble_eq_true rfl) (Nat.zero_le _) (Nat.zero_le _) dX6_channel_3 ?_
  refine x_if_neZ C 25 dX6_channel_6 (by decide) (fun c1 => ?_) (fun c1 => ?_)
  · refine x_bipush C (-2) dX6_channel_25 (by decide) ?_
    exact x_iret C rfl dX6_channel_27 rfl rfl
  · refine x_iload_n C dX6_channel_9 2 rfl ?_
    refine x_iconst C 2 dX6_channel_10 (by decide) ?_
    refine x_cSi (As := [.int xc, .int 2]) (ws' := wLG cI cZ cO q x) C mw_245 mw_36 mw_37 mw_34 hd_X6_outside rfl rfl ⟨Nat.le_of_ble_eq_true rfl, Nat.le_of_ble_eq_true rfl⟩ (c_X6_outside l D cI cZ cO  xc 2 ) [] [.inl 0, .inl 1, .inl 2, .inl 3, .inl 4, .inl 5, .inl 6, .inl 7, .inl 8, .inl 9, .inl 10, .inl 11, .inl 12, .inl 13, .inl 14, .inl 15, .inl 16, .inl 17, .inl 18, .inl 19, .inl 20, .inl 21, .inl 22, .inl 23, .inl 24] trivial rfl ⟨rfl, rfl, rfl, rfl, rfl, rfl, rfl, rfl, rfl, rfl, rfl, rfl, rfl, rfl, rfl, rfl, rfl, rfl, rfl, rfl, rfl, rfl, rfl, rfl, rfl, trivial⟩ rfl ⟨rfl, rfl, rfl, rfl, rfl, rfl, rfl, rfl, rfl, rfl, rfl, rfl, rfl, rfl, rfl, rfl, rfl, rfl, rfl, rfl, rfl, rfl, rfl, rfl, rfl, trivial⟩ rfl rfl (Nat.le_of_ble_eq_true rfl) (Nat.zero_le _) (Nat.zero_le _) dX6_channel_11 ?_
    refine x_if_neZ C 25 dX6_channel_14 (by decide) (fun c2 => ?_) (fun c2 => ?_)
    · refine x_bipush C (-2) dX6_channel_25 (by decide) ?_
      exact x_iret C rfl dX6_channel_27 rfl rfl
    · refine x_iload_n C dX6_channel_17 3 rfl ?_
      refine x_iconst C 3 dX6_channel_18 (by decide) ?_
      refine x_cSi (As := [.int xf, .int 3]) (ws' := wLG cI cZ cO q x) C mw_245 mw_36 mw_37 mw_34 hd_X6_outside rfl rfl ⟨Nat.le_of_ble_eq_true rfl, Nat.le_of_ble_eq_true rfl⟩ (c_X6_outside l D cI cZ cO  xf 3 ) [] [.inl 0, .inl 1, .inl 2, .inl 3, .inl 4, .inl 5, .inl 6, .inl 7, .inl 8, .inl 9, .inl 10, .inl 11, .inl 12, .inl 13, .inl 14, .inl 15, .inl 16, .inl 17, .inl 18, .inl 19, .inl 20, .inl 21, .inl 22, .inl 23, .inl 24] trivial rfl ⟨rfl, rfl, rfl, rfl, rfl, rfl, rfl, rfl, rfl, rfl, rfl, rfl, rfl, rfl, rfl, rfl, rfl, rfl, rfl, rfl, rfl, rfl, rfl, rfl, rfl, trivial⟩ rfl ⟨rfl, rfl, rfl, rfl, rfl, rfl, rfl, rfl, rfl, rfl, rfl, rfl, rfl, rfl, rfl, rfl, rfl, rfl, rfl, rfl, rfl, rfl, rfl, rfl, rfl, trivial⟩ rfl rfl (Nat.le_of_ble_eq_true rfl) (Nat.zero_le _) (Nat.zero_le _) dX6_channel_19 ?_
      refine x_if_eqZ C 28 dX6_channel_22 (by decide) (fun c3 => ?_) (fun c3 => ?_)
      · refine x_bipush C (-2) dX6_channel_25 (by decide) ?_
        exact x_iret C rfl dX6_channel_27 rfl rfl
      · have hN4 := out_nat 17 (by decide) (g := 17) rfl (by assumption : f_X6_outside xs 17 = false)
        refine x_leq (congrArg (fun (z : Int32) => ([(0, .ref (q 0)), (1, .int z), (2, .int xc), (3, .int xf)] : List (Nat × Value))) hN4.1) ?_
        have hN5 := out_nat 2 (by decide) (g := 2) rfl (by assumption : f_X6_outside xc 2 = false)
        refine x_leq (congrArg (fun (z : Int32) => ([(0, .ref (q 0)), (1, .int (nI (ixn xs))), (2, .int z), (3, .int xf)] : List (Nat × Value))) hN5.1) ?_
        refine x_aload_n C dX6_channel_28 0 rfl ?_
        refine x_get (v := .ref (q 8)) C hwsX60 1 mw_222 0 rfl rfl (by decide) rfl rfl dX6_channel_29 ?_
        refine x_get (v := .ref (q 10)) C hwsX30 1 mw_253 8 rfl rfl (by decide) rfl rfl dX6_channel_32 ?_
        refine x_iload_n C dX6_channel_35 1 rfl ?_
        refine x_iconst C 3 dX6_channel_36 (by decide) ?_
        refine x_imul C dX6_channel_37 ?_
        refine x_top (nI ((ixn xs) * 3)) (pk_mul _ _) ?_
        refine x_iload_n C dX6_channel_38 2 rfl ?_
        refine x_iadd C dX6_channel_39 ?_
        refine x_top (nI (((ixn xs) * 3) + (ixn xc))) (nI_add _ _) ?_
        refine x_iload_n C dX6_channel_40 3 rfl ?_
        refine x_cSi (As := [.ref (q 10), .int (nI (((ixn xs) * 3) + (ixn xc))), .int xf]) (ws' := wLG cI cZ cO q (upY x 2 (put (x 2) 1 (((ixn xs) * 3) + (ixn xc)) xf))) C mw_254 mw_255 mw_37 mw_251 hd_X6_exchange rfl rfl ⟨Nat.le_of_ble_eq_true rfl, Nat.le_of_ble_eq_true rfl⟩ (c_X6_exchange l D cI cZ cO (q 10) 54 ((x 2) 1) (((ixn xs) * 3) + (ixn xc)) xf (by omega) (by decide)) [10] [.inl 0, .inl 1, .inl 2, .inl 3, .inl 4, .inl 5, .inl 6, .inl 7, .inl 8, .inl 9, .inr 0, .inl 11, .inl 12, .inl 13, .inl 14, .inl 15, .inl 16, .inl 17, .inl 18, .inl 19, .inl 20, .inl 21, .inl 22, .inl 23, .inl 24] ⟨rfl, trivial⟩ rfl ⟨rfl, rfl, rfl, rfl, rfl, rfl, rfl, rfl, rfl, rfl, rfl, rfl, rfl, rfl, rfl, rfl, rfl, rfl, rfl, rfl, rfl, rfl, rfl, rfl, rfl, trivial⟩ rfl ⟨rfl, rfl, rfl, rfl, rfl, rfl, rfl, rfl, rfl, rfl, rfl, rfl, rfl, rfl, rfl, rfl, rfl, rfl, rfl, rfl, rfl, rfl, rfl, rfl, rfl, trivial⟩ rfl rfl (Nat.le_of_ble_eq_true rfl) (Nat.zero_le _) (Nat.zero_le _) dX6_channel_41 ?_
        exact x_iret C rfl dX6_channel_44 rfl rfl

def f_X6_cylinder (x : Sy) (xk : Int32) (xf : Int32) : Int32 × Sy := if (f_X6_outside xk 5) = true then ((-2), x) else (if (f_X6_outside xf 1) = true then ((-2), x) else ((x 1) 2 (ixn xk), upY x 1 (put (x 1) 2 (ixn xk) xf)))
theorem hd_X6_cylinder : yX6_cylinder.cls ≠ "java/lang/invoke/MethodHandle" ∧ yX6_cylinder.cls ≠ "java/lang/invoke/VarHandle" ∧ (parseMethodDescriptor yX6_cylinder.desc).map (fun d => d.parameters.length) = some 2 := by decide +kernel
set_option maxHeartbeats 4000000 in
set_option maxRecDepth 100000 in
theorem c_X6_cylinder (l : Launch) (D : va_G) (cI cZ cO : ClassId) (q : Nat → Nat) (x : Sy) (xk : Int32) (xf : Int32)  : CTi l D (T3 cI cZ cO) yX6_cylinder (Cond.code yX6_cylinder cX6_cylinder 3 (some .int) :: WA) ({ frames := 1, cells := 0, slots := 0, locals := 23 } : Room) [.ref (q 0), .int xk, .int xf] (wLG cI cZ cO q x) ((f_X6_cylinder x xk xf).1) (wLG cI cZ cO q (f_X6_cylinder x xk xf).2) := by
  refine ct_i (K := fun z => z) (t := f_X6_cylinder x xk xf) (rf := fun o => o.1) (wf := fun o => wLG cI cZ cO q o.2) (own := RX6) (nm := "cylinder") (L0 := [(0, .ref (q 0)), (1, .int xk), (2, .int xf)]) (plainFor_of_name (by decide +kernel)) rfl rfl (Nat.le_of_ble_eq_true rfl) rfl ?_
  intro p e s m args below meth c A C
  unfold f_X6_cylinder
  refine x_iload_n C dX6_cylinder_0 1 rfl ?_
  refine x_iconst C 5 dX6_cylinder_1 (by decide) ?_
  refine x_cSi (As := [.int xk, .int 5]) (ws' := wLG cI cZ cO q x) C mw_245 mw_36 mw_37 mw_34 hd_X6_outside rfl rfl ⟨Nat.le_of_ble_eq_true rfl, Nat.le_of_ble_eq_true rfl⟩ (c_X6_outside l D cI cZ cO  xk 5 ) [] [.inl 0, .inl 1, .inl 2, .inl 3, .inl 4, .inl 5, .inl 6, .inl 7, .inl 8, .inl 9, .inl 10, .inl 11, .inl 12, .inl 13, .inl 14, .inl 15, .inl 16, .inl 17, .inl 18, .inl 19, .inl 20, .inl 21, .inl 22, .inl 23, .inl 24] trivial rfl ⟨rfl, rfl, rfl, rfl, rfl, rfl, rfl, rfl, rfl, rfl, rfl, rfl, rfl, rfl, rfl, rfl, rfl, rfl, rfl, rfl, rfl, rfl, rfl, rfl, rfl, trivial⟩ rfl ⟨rfl, rfl, rfl, rfl, rfl, rfl, rfl, rfl, rfl, rfl, rfl, rfl, rfl, rfl, rfl, rfl, rfl, rfl, rfl, rfl, rfl, rfl, rfl, rfl, rfl, trivial⟩ rfl rfl (Nat.le_of_ble_eq_true rfl) (Nat.zero_le _) (Nat.zero_le _) dX6_cylinder_2 ?_
  refine x_if_neZ C 16 dX6_cylinder_5 (by decide) (fun c1 => ?_) (fun c1 => ?_)
  · refine x_bipush C (-2) dX6_cylinder_16 (by decide) ?_
    exact x_iret C rfl dX6_cylinder_18 rfl rfl
  · refine x_iload_n C dX6_cylinder_8 2 rfl ?_
    refine x_iconst C 1 dX6_cylinder_9 (by decide) ?_
    refine x_cSi (As := [.int xf, .int 1]) (ws' := wLG cI cZ cO q x) C mw_245 mw_36 mw_37 mw_34 hd_X6_outside rfl rfl ⟨Nat.le_of_ble_eq_true rfl, Nat.le_of_ble_eq_true rfl⟩ (c_X6_outside l D cI cZ cO  xf 1 ) [] [.inl 0, .inl 1, .inl 2, .inl 3, .inl 4, .inl 5, .inl 6, .inl 7, .inl 8, .inl 9, .inl 10, .inl 11, .inl 12, .inl 13, .inl 14, .inl 15, .inl 16, .inl 17, .inl 18, .inl 19, .inl 20, .inl 21, .inl 22, .inl 23, .inl 24] trivial rfl ⟨rfl, rfl, rfl, rfl, rfl, rfl, rfl, rfl, rfl, rfl, rfl, rfl, rfl, rfl, rfl, rfl, rfl, rfl, rfl, rfl, rfl, rfl, rfl, rfl, rfl, trivial⟩ rfl ⟨rfl, rfl, rfl, rfl, rfl, rfl, rfl, rfl, rfl, rfl, rfl, rfl, rfl, rfl, rfl, rfl, rfl, rfl, rfl, rfl, rfl, rfl, rfl, rfl, rfl, trivial⟩ rfl rfl (Nat.le_of_ble_eq_true rfl) (Nat.zero_le _) (Nat.zero_le _) dX6_cylinder_10 ?_
    refine x_if_eqZ C 19 dX6_cylinder_13 (by decide) (fun c2 => ?_) (fun c2 => ?_)
    · refine x_bipush C (-2) dX6_cylinder_16 (by decide) ?_
      exact x_iret C rfl dX6_cylinder_18 rfl rfl
    · have hN3 := out_nat 5 (by decide) (g := 5) rfl (by assumption : f_X6_outside xk 5 = false)
      refine x_leq (congrArg (fun (z : Int32) => ([(0, .ref (q 0)), (1, .int z), (2, .int xf)] : List (Nat × Value))) hN3.1) ?_
      refine x_aload_n C dX6_cylinder_19 0 rfl ?_
      refine x_get (v := .ref (q 2)) C hwsX60 0 mw_219 0 rfl rfl (by decide) rfl rfl dX6_cylinder_20 ?_
      refine x_get (v := .ref (q 5)) C hwsX20 2 mw_257 2 rfl rfl (by decide) rfl rfl dX6_cylinder_23 ?_
      refine x_iload_n C dX6_cylinder_26 1 rfl ?_
      refine x_iload_n C dX6_cylinder_27 2 rfl ?_
      refine x_cSi (As := [.ref (q 5), .int (nI (ixn xk)), .int xf]) (ws' := wLG cI cZ cO q (upY x 1 (put (x 1) 2 (ixn xk) xf))) C mw_254 mw_255 mw_37 mw_251 hd_X6_exchange rfl rfl ⟨Nat.le_of_ble_eq_true rfl, Nat.le_of_ble_eq_true rfl⟩ (c_X6_exchange l D cI cZ cO (q 5) 6 ((x 1) 2) (ixn xk) xf (by omega) (by decide)) [5] [.inl 0, .inl 1, .inl 2, .inl 3, .inl 4, .inr 0, .inl 6, .inl 7, .inl 8, .inl 9, .inl 10, .inl 11, .inl 12, .inl 13, .inl 14, .inl 15, .inl 16, .inl 17, .inl 18, .inl 19, .inl 20, .inl 21, .inl 22, .inl 23, .inl 24] ⟨rfl, trivial⟩ rfl ⟨rfl, rfl, rfl, rfl, rfl, rfl, rfl, rfl, rfl, rfl, rfl, rfl, rfl, rfl, rfl, rfl, rfl, rfl, rfl, rfl, rfl, rfl, rfl, rfl, rfl, trivial⟩ rfl ⟨rfl, rfl, rfl, rfl, rfl, rfl, rfl, rfl, rfl, rfl, rfl, rfl, rfl, rfl, rfl, rfl, rfl, rfl, rfl, rfl, rfl, rfl, rfl, rfl, rfl, trivial⟩ rfl rfl (Nat.le_of_ble_eq_true rfl) (Nat.zero_le _) (Nat.zero_le _) dX6_cylinder_28 ?_
      exact x_iret C rfl dX6_cylinder_31 rfl rfl

def f_X6_valve (x : Sy) (xk : Int32) (xf : Int32) : Int32 × Sy := if (f_X6_outside xk 4) = true then ((-2), x) else (if (f_X6_outside xf 2) = true then ((-2), x) else ((x 1) 4 (ixn xk), upY x 1 (put (x 1) 4 (ixn xk) xf)))
theorem hd_X6_valve : yX6_valve.cls ≠ "java/lang/invoke/MethodHandle" ∧ yX6_valve.cls ≠ "java/lang/invoke/VarHandle" ∧ (parseMethodDescriptor yX6_valve.desc).map (fun d => d.parameters.length) = some 2 := by decide +kernel
set_option maxHeartbeats 4000000 in
set_option maxRecDepth 100000 in
theorem c_X6_valve (l : Launch) (D : va_G) (cI cZ cO : ClassId) (q : Nat → Nat) (x : Sy) (xk : Int32) (xf : Int32)  : CTi l D (T3 cI cZ cO) yX6_valve (Cond.code yX6_valve cX6_valve 3 (some .int) :: WA) ({ frames := 1, cells := 0, slots := 0, locals := 23 } : Room) [.ref (q 0), .int xk, .int xf] (wLG cI cZ cO q x) ((f_X6_valve x xk xf).1) (wLG cI cZ cO q (f_X6_valve x xk xf).2) := by
  refine ct_i (K := fun z => z) (t := f_X6_valve x xk xf) (rf := fun o => o.1) (wf := fun o => wLG cI cZ cO q o.2) (own := RX6) (nm := "valve") (L0 := [(0, .ref (q 0)), (1, .int xk), (2, .int xf)]) (plainFor_of_name (by decide +kernel)) rfl rfl (Nat.le_of_ble_eq_true rfl) rfl ?_
  intro p e s m args below meth c A C
  unfold f_X6_valve
  refine x_iload_n C dX6_valve_0 1 rfl ?_
  refine x_iconst C 4 dX6_valve_1 (by decide) ?_
  refine x_cSi (As := [.int xk, .int 4]) (ws' := wLG cI cZ cO q x) C mw_245 mw_36 mw_37 mw_34 hd_X6_outside rfl rfl ⟨Nat.le_of_ble_eq_true rfl, Nat.le_of_ble_eq_true rfl⟩ (c_X6_outside l D cI cZ cO  xk 4 ) [] [.inl 0, .inl 1, .inl 2, .inl 3, .inl 4, .inl 5, .inl 6, .inl 7, .inl 8, .inl 9, .inl 10, .inl 11, .inl 12, .inl 13, .inl 14, .inl 15, .inl 16, .inl 17, .inl 18, .inl 19, .inl 20, .inl 21, .inl 22, .inl 23, .inl 24] trivial rfl ⟨rfl, rfl, rfl, rfl, rfl, rfl, rfl, rfl, rfl, rfl, rfl, rfl, rfl, rfl, rfl, rfl, rfl, rfl, rfl, rfl, rfl, rfl, rfl, rfl, rfl, trivial⟩ rfl ⟨rfl, rfl, rfl, rfl, rfl, rfl, rfl, rfl, rfl, rfl, rfl, rfl, rfl, rfl, rfl, rfl, rfl, rfl, rfl, rfl, rfl, rfl, rfl, rfl, rfl, trivial⟩ rfl rfl (Nat.le_of_ble_eq_true rfl) (Nat.zero_le _) (Nat.zero_le _) dX6_valve_2 ?_
  refine x_if_neZ C 16 dX6_valve_5 (by decide) (fun c1 => ?_) (fun c1 => ?_)
  · refine x_bipush C (-2) dX6_valve_16 (by decide) ?_
    exact x_iret C rfl dX6_valve_18 rfl rfl
  · refine x_iload_n C dX6_valve_8 2 rfl ?_
    refine x_iconst C 2 dX6_valve_9 (by decide) ?_
    refine x_cSi (As := [.int xf, .int 2]) (ws' := wLG cI cZ cO q x) C mw_245 mw_36 mw_37 mw_34 hd_X6_outside rfl rfl ⟨Nat.le_of_ble_eq_true rfl, Nat.le_of_ble_eq_true rfl⟩ (c_X6_outside l D cI cZ cO  xf 2 ) [] [.inl 0, .inl 1, .inl 2, .inl 3, .inl 4, .inl 5, .inl 6, .inl 7, .inl 8, .inl 9, .inl 10, .inl 11, .inl 12, .inl 13, .inl 14, .inl 15, .inl 16, .inl 17, .inl 18, .inl 19, .inl 20, .inl 21, .inl 22, .inl 23, .inl 24] trivial rfl ⟨rfl, rfl, rfl, rfl, rfl, rfl, rfl, rfl, rfl, rfl, rfl, rfl, rfl, rfl, rfl, rfl, rfl, rfl, rfl, rfl, rfl, rfl, rfl, rfl, rfl, trivial⟩ rfl ⟨rfl, rfl, rfl, rfl, rfl, rfl, rfl, rfl, rfl, rfl, rfl, rfl, rfl, rfl, rfl, rfl, rfl, rfl, rfl, rfl, rfl, rfl, rfl, rfl, rfl, trivial⟩ rfl rfl (Nat.le_of_ble_eq_true rfl) (Nat.zero_le _) (Nat.zero_le _) dX6_valve_10 ?_
    refine x_if_eqZ C 19 dX6_valve_13 (by decide) (fun c2 => ?_) (fun c2 => ?_)
    · refine x_bipush C (-2) dX6_valve_16 (by decide) ?_
      exact x_iret C rfl dX6_valve_18 rfl rfl
    · have hN3 := out_nat 4 (by decide) (g := 4) rfl (by assumption : f_X6_outside xk 4 = false)
      refine x_leq (congrArg (fun (z : Int32) => ([(0, .ref (q 0)), (1, .int z), (2, .int xf)] : List (Nat × Value))) hN3.1) ?_
      refine x_aload_n C dX6_valve_19 0 rfl ?_
      refine x_get (v := .ref (q 2)) C hwsX60 0 mw_219 0 rfl rfl (by decide) rfl rfl dX6_valve_20 ?_
      refine x_get (v := .ref (q 7)) C hwsX20 4 mw_259 2 rfl rfl (by decide) rfl rfl dX6_valve_23 ?_
      refine x_iload_n C dX6_valve_26 1 rfl ?_
      refine x_iload_n C dX6_valve_27 2 rfl ?_
      refine x_cSi (As := [.ref (q 7), .int (nI (ixn xk)), .int xf]) (ws' := wLG cI cZ cO q (upY x 1 (put (x 1) 4 (ixn xk) xf))) C mw_254 mw_255 mw_37 mw_251 hd_X6_exchange rfl rfl ⟨Nat.le_of_ble_eq_true rfl, Nat.le_of_ble_eq_true rfl⟩ (c_X6_exchange l D cI cZ cO (q 7) 5 ((x 1) 4) (ixn xk) xf (by omega) (by decide)) [7] [.inl 0, .inl 1, .inl 2, .inl 3, .inl 4, .inl 5, .inl 6, .inr 0, .inl 8, .inl 9, .inl 10, .inl 11, .inl 12, .inl 13, .inl 14, .inl 15, .inl 16, .inl 17, .inl 18, .inl 19, .inl 20, .inl 21, .inl 22, .inl 23, .inl 24] ⟨rfl, trivial⟩ rfl ⟨rfl, rfl, rfl, rfl, rfl, rfl, rfl, rfl, rfl, rfl, rfl, rfl, rfl, rfl, rfl, rfl, rfl, rfl, rfl, rfl, rfl, rfl, rfl, rfl, rfl, trivial⟩ rfl ⟨rfl, rfl, rfl, rfl, rfl, rfl, rfl, rfl, rfl, rfl, rfl, rfl, rfl, rfl, rfl, rfl, rfl, rfl, rfl, rfl, rfl, rfl, rfl, rfl, rfl, trivial⟩ rfl rfl (Nat.le_of_ble_eq_true rfl) (Nat.zero_le _) (Nat.zero_le _) dX6_valve_28 ?_
      exact x_iret C rfl dX6_valve_31 rfl rfl

def f_X6_stick (x : Sy) (xf : Int32) : Int32 × Sy := if (f_X6_outside xf 1) = true then ((-2), x) else ((x 1) 8 0, upY x 1 (put (x 1) 8 0 xf))
theorem hd_X6_stick : yX6_stick.cls ≠ "java/lang/invoke/MethodHandle" ∧ yX6_stick.cls ≠ "java/lang/invoke/VarHandle" ∧ (parseMethodDescriptor yX6_stick.desc).map (fun d => d.parameters.length) = some 1 := by decide +kernel
set_option maxHeartbeats 4000000 in
set_option maxRecDepth 100000 in
theorem c_X6_stick (l : Launch) (D : va_G) (cI cZ cO : ClassId) (q : Nat → Nat) (x : Sy) (xf : Int32)  : CTi l D (T3 cI cZ cO) yX6_stick (Cond.code yX6_stick cX6_stick 3 (some .int) :: WA) ({ frames := 1, cells := 0, slots := 0, locals := 21 } : Room) [.ref (q 0), .int xf] (wLG cI cZ cO q x) ((f_X6_stick x xf).1) (wLG cI cZ cO q (f_X6_stick x xf).2) := by
  refine ct_i (K := fun z => z) (t := f_X6_stick x xf) (rf := fun o => o.1) (wf := fun o => wLG cI cZ cO q o.2) (own := RX6) (nm := "stick") (L0 := [(0, .ref (q 0)), (1, .int xf)]) (plainFor_of_name (by decide +kernel)) rfl rfl (Nat.le_of_ble_eq_true rfl) rfl ?_
  intro p e s m args below meth c A C
  unfold f_X6_stick
  refine x_iload_n C dX6_stick_0 1 rfl ?_
  refine x_iconst C 1 dX6_stick_1 (by decide) ?_
  refine x_cSi (As := [.int xf, .int 1]) (ws' := wLG cI cZ cO q x) C mw_245 mw_36 mw_37 mw_34 hd_X6_outside rfl rfl ⟨Nat.le_of_ble_eq_true rfl, Nat.le_of_ble_eq_true rfl⟩ (c_X6_outside l D cI cZ cO  xf 1 ) [] [.inl 0, .inl 1, .inl 2, .inl 3, .inl 4, .inl 5, .inl 6, .inl 7, .inl 8, .inl 9, .inl 10, .inl 11, .inl 12, .inl 13, .inl 14, .inl 15, .inl 16, .inl 17, .inl 18, .inl 19, .inl 20, .inl 21, .inl 22, .inl 23, .inl 24] trivial rfl ⟨rfl, rfl, rfl, rfl, rfl, rfl, rfl, rfl, rfl, rfl, rfl, rfl, rfl, rfl, rfl, rfl, rfl, rfl, rfl, rfl, rfl, rfl, rfl, rfl, rfl, trivial⟩ rfl ⟨rfl, rfl, rfl, rfl, rfl, rfl, rfl, rfl, rfl, rfl, rfl, rfl, rfl, rfl, rfl, rfl, rfl, rfl, rfl, rfl, rfl, rfl, rfl, rfl, rfl, trivial⟩ rfl rfl (Nat.le_of_ble_eq_true rfl) (Nat.zero_le _) (Nat.zero_le _) dX6_stick_2 ?_
  refine x_if_eqZ C 11 dX6_stick_5 (by decide) (fun c1 => ?_) (fun c1 => ?_)
  · refine x_bipush C (-2) dX6_stick_8 (by decide) ?_
    exact x_iret C rfl dX6_stick_10 rfl rfl
  · refine x_aload_n C dX6_stick_11 0 rfl ?_
    refine x_get (v := .ref (q 2)) C hwsX60 0 mw_219 0 rfl rfl (by decide) rfl rfl dX6_stick_12 ?_
    refine x_get (v := .int ((x 1) 8 0)) C hwsX20 8 mw_261 2 rfl rfl (by decide) rfl rfl dX6_stick_15 ?_
    refine x_istore_n (L' := [(2, .int ((x 1) 8 0)), (0, .ref (q 0)), (1, .int xf)]) C dX6_stick_18 (by decide) rfl ?_
    refine x_aload_n C dX6_stick_19 1 rfl ?_
    refine x_get (v := .ref (q 2)) C hwsX60 0 mw_219 0 rfl rfl (by decide) rfl rfl dX6_stick_20 ?_
    refine x_iload_n C dX6_stick_23 2 rfl ?_
    refine x_put (ws' := wLG cI cZ cO q (upY x 1 (put (x 1) 8 0 xf))) C hwsX20 tyX2 tyX2_ok nmX2 8 mw_261 2 rfl rfl (by decide) rfl rfl rfl rfl (Nat.le_of_ble_eq_true rfl) dX6_stick_24 rfl ?_
    refine x_iload_n C dX6_stick_27 0 rfl ?_
    exact x_iret C rfl dX6_stick_28 rfl rfl

def f_X6_module (x : Sy) (xm : Int32) (xf : Int32) : Int32 × Sy := if (f_X6_outside xm 1) = true then ((-2), x) else (if (f_X6_outside xf 1) = true then ((-2), x) else (if xm = 0 then ((x 3) 8 0, upY x 3 (put (x 3) 8 0 xf)) else ((x 6) 8 0, upY x 6 (put (x 6) 8 0 xf))))
theorem hd_X6_module : yX6_module.cls ≠ "java/lang/invoke/MethodHandle" ∧ yX6_module.cls ≠ "java/lang/invoke/VarHandle" ∧ (parseMethodDescriptor yX6_module.desc).map (fun d => d.parameters.length) = some 2 := by decide +kernel
set_option maxHeartbeats 4000000 in
set_option maxRecDepth 100000 in
theorem c_X6_module (l : Launch) (D : va_G) (cI cZ cO : ClassId) (q : Nat → Nat) (x : Sy) (xm : Int32) (xf : Int32)  : CTi l D (T3 cI cZ cO) yX6_module (Cond.code yX6_module cX6_module 4 (some .int) :: WA) ({ frames := 1, cells := 0, slots := 0, locals := 21 } : Room) [.ref (q 0), .int xm, .int xf] (wLG cI cZ cO q x) ((f_X6_module x xm xf).1) (wLG cI cZ cO q (f_X6_module x xm xf).2) := by
  refine ct_i (K := fun z => z) (t := f_X6_module x xm xf) (rf := fun o => o.1) (wf := fun o => wLG cI cZ cO q o.2) (own := RX6) (nm := "module") (L0 := [(0, .ref (q 0)), (1, .int xm), (2, .int xf)]) (plainFor_of_name (by decide +kernel)) rfl rfl (Nat.le_of_ble_eq_true rfl) rfl ?_
  intro p e s m args below meth c A C
  unfold f_X6_module
  refine x_iload_n C dX6_module_0 1 rfl ?_
  refine x_iconst C 1 dX6_module_1 (by decide) ?_
  refine x_cSi (As := [.int xm, .int 1]) (ws' := wLG cI cZ cO q x) C mw_245 mw_36 mw_37 mw_34 hd_X6_outside rfl rfl ⟨Nat.le_of_ble_eq_true rfl, Nat.le_of_ble_eq_true rfl⟩ (c_X6_outside l D cI cZ cO  xm 1 ) [] [.inl 0, .inl 1, .inl 2, .inl 3, .inl 4, .inl 5, .inl 6, .inl 7, .inl 8, .inl 9, .inl 10, .inl 11, .inl 12, .inl 13, .inl 14, .inl 15, .inl 16, .inl 17, .inl 18, .inl 19, .inl 20, .inl 21, .inl 22, .inl 23, .inl 24] trivial rfl ⟨rfl, rfl, rfl, rfl, rfl, rfl, rfl, rfl, rfl, rfl, rfl, rfl, rfl, rfl, rfl, rfl, rfl, rfl, rfl, rfl, rfl, rfl, rfl, rfl, rfl, trivial⟩ rfl ⟨rfl, rfl, rfl, rfl, rfl, rfl, rfl, rfl, rfl, rfl, rfl, rfl, rfl, rfl, rfl, rfl, rfl, rfl, rfl, rfl, rfl, rfl, rfl, rfl, rfl, trivial⟩ rfl rfl (Nat.le_of_ble_eq_true rfl) (Nat.zero_le _) (Nat.zero_le _) dX6_module_2 ?_
  refine x_if_neZ C 16 dX6_module_5 (by decide) (fun c1 => ?_) (fun c1 => ?_)
  · refine x_bipush C (-2) dX6_module_16 (by decide) ?_
    exact x_iret C rfl dX6_module_18 rfl rfl
  · refine x_iload_n C dX6_module_8 2 rfl ?_
    refine x_iconst C 1 dX6_module_9 (by decide) ?_
    refine x_cSi (As := [.int xf, .int 1]) (ws' := wLG cI cZ cO q x) C mw_245 mw_36 mw_37 mw_34 hd_X6_outside rfl rfl ⟨Nat.le_of_ble_eq_true rfl, Nat.le_of_ble_eq_true rfl⟩ (c_X6_outside l D cI cZ cO  xf 1 ) [] [.inl 0, .inl 1, .inl 2, .inl 3, .inl 4, .inl 5, .inl 6, .inl 7, .inl 8, .inl 9, .inl 10, .inl 11, .inl 12, .inl 13, .inl 14, .inl 15, .inl 16, .inl 17, .inl 18, .inl 19, .inl 20, .inl 21, .inl 22, .inl 23, .inl 24] trivial rfl ⟨rfl, rfl, rfl, rfl, rfl, rfl, rfl, rfl, rfl, rfl, rfl, rfl, rfl, rfl, rfl, rfl, rfl, rfl, rfl, rfl, rfl, rfl, rfl, rfl, rfl, trivial⟩ rfl ⟨rfl, rfl, rfl, rfl, rfl, rfl, rfl, rfl, rfl, rfl, rfl, rfl, rfl, rfl, rfl, rfl, rfl, rfl, rfl, rfl, rfl, rfl, rfl, rfl, rfl, trivial⟩ rfl rfl (Nat.le_of_ble_eq_true rfl) (Nat.zero_le _) (Nat.zero_le _) dX6_module_10 ?_
    refine x_if_eqZ C 19 dX6_module_13 (by decide) (fun c2 => ?_) (fun c2 => ?_)
    · refine x_bipush C (-2) dX6_module_16 (by decide) ?_
      exact x_iret C rfl dX6_module_18 rfl rfl
    · refine x_split (fun c3 => ?_) (fun c3 => ?_)
      · refine x_leq (congrArg (fun (z : Int32) => ([(0, .ref (q 0)), (1, .int z), (2, .int xf)] : List (Nat × Value))) (c3 : xm = 0)) ?_
        refine x_aload_n C dX6_module_19 0 rfl ?_
        refine x_get (v := .ref (q 1)) C hwsX60 2 mw_224 0 rfl rfl (by decide) rfl rfl dX6_module_20 ?_
        refine x_iload_n C dX6_module_23 1 rfl ?_
        refine x_aald C 1 2 rfl rfl 0 rfl (by decide) (by decide) rfl dX6_module_24 ?_
        refine x_get (v := .int ((x 3) 8 0)) C hwsX00 8 mw_263 11 rfl rfl (by decide) rfl rfl dX6_module_25 ?_
        refine x_istore_n (L' := [(3, .int ((x 3) 8 0)), (0, .ref (q 0)), (1, .int 0), (2, .int xf)]) C dX6_module_28 (by decide) rfl ?_
        refine x_aload_n C dX6_module_29 1 rfl ?_
        refine x_get (v := .ref (q 1)) C hwsX60 2 mw_224 0 rfl rfl (by decide) rfl rfl dX6_module_30 ?_
        refine x_iload_n C dX6_module_33 2 rfl ?_
        refine x_aald C 1 2 rfl rfl 0 rfl (by decide) (by decide) rfl dX6_module_34 ?_
        refine x_iload_n C dX6_module_35 3 rfl ?_
        refine x_put (ws' := wLG cI cZ cO q (upY x 3 (put (x 3) 8 0 xf))) C hwsX00 tyX0 tyX0_ok nmX0 8 mw_263 11 rfl rfl (by decide) rfl rfl rfl rfl (Nat.le_of_ble_eq_true rfl) dX6_module_36 rfl ?_
        refine x_iload_n C dX6_module_39 0 rfl ?_
        exact x_iret C rfl dX6_module_40 rfl rfl
      · refine x_leq (congrArg (fun (z : Int32) => ([(0, .ref (q 0)), (1, .int z), (2, .int xf)] : List (Nat × Value))) (case01 (by assumption) c3 : xm = 1)) ?_
        refine x_aload_n C dX6_module_19 0 rfl ?_
        refine x_get (v := .ref (q 1)) C hwsX60 2 mw_224 0 rfl rfl (by decide) rfl rfl dX6_module_20 ?_
        refine x_iload_n C dX6_module_23 1 rfl ?_
        refine x_aald C 1 2 rfl rfl 1 rfl (by decide) (by decide) rfl dX6_module_24 ?_
        refine x_get (v := .int ((x 6) 8 0)) C hwsX00 8 mw_263 17 rfl rfl (by decide) rfl rfl dX6_module_25 ?_
        refine x_istore_n (L' := [(3, .int ((x 6) 8 0)), (0, .ref (q 0)), (1, .int 1), (2, .int xf)]) C dX6_module_28 (by decide) rfl ?_
        refine x_aload_n C dX6_module_29 1 rfl ?_
        refine x_get (v := .ref (q 1)) C hwsX60 2 mw_224 0 rfl rfl (by decide) rfl rfl dX6_module_30 ?_
        refine x_iload_n C dX6_module_33 2 rfl ?_
        refine x_aald C 1 2 rfl rfl 1 rfl (by decide) (by decide) rfl dX6_module_34 ?_
        refine x_iload_n C dX6_module_35 3 rfl ?_
        refine x_put (ws' := wLG cI cZ cO q (upY x 6 (put (x 6) 8 0 xf))) C hwsX00 tyX0 tyX0_ok nmX0 8 mw_263 17 rfl rfl (by decide) rfl rfl rfl rfl (Nat.le_of_ble_eq_true rfl) dX6_module_36 rfl ?_
        refine x_iload_n C dX6_module_39 0 rfl ?_
        exact x_iret C rfl dX6_module_40 rfl rfl

def f_X6_run_x17 (a5 : Sy) : Int32 × Sy := ((a5 0) 5 0, a5)
def f_X6_run_o23 (o9 : Sy) : Sy := o9
def f_X6_run_t17 (i4 : Nat) (a5 : Sy) : Sy := f_X6_run_o23 (f_X6_tick a5)
def f_X6_run (x : Sy) (xn : Int32) : Int32 × Sy := if xn < 1 then ((-2), x) else (if 1000 < xn then ((-2), x) else (f_X6_run_x17 (up f_X6_run_t17 0 (ixn xn) x)))
theorem hd_X6_run : yX6_run.cls ≠ "java/lang/invoke/MethodHandle" ∧ yX6_run.cls ≠ "java/lang/invoke/VarHandle" ∧ (parseMethodDescriptor yX6_run.desc).map (fun d => d.parameters.length) = some 1 := by decide +kernel
set_option maxHeartbeats 4000000 in
set_option maxRecDepth 100000 in
theorem c_X6_run (l : Launch) (D : va_G) (cI cZ cO : ClassId) (q : Nat → Nat) (x : Sy) (xn : Int32)  : CTi l D (T3 cI cZ cO) yX6_run (Cond.code yX6_run cX6_run 3 (some .int) :: WA) ({ frames := 6, cells := 0, slots := 0, locals := 129 } : Room) [.ref (q 0), .int xn] (wLG cI cZ cO q x) ((f_X6_run x xn).1) (wLG cI cZ cO q (f_X6_run x xn).2) := by
  refine ct_i (K := fun z => z) (t := f_X6_run x xn) (rf := fun o => o.1) (wf := fun o => wLG cI cZ cO q o.2) (own := RX6) (nm := "run") (L0 := [(0, .ref (q 0)), (1, .int xn)]) (plainFor_of_name (by decide +kernel)) rfl rfl (Nat.le_of_ble_eq_true rfl) rfl ?_
  intro p e s m args below meth c A C
  unfold f_X6_run
  refine x_iload_n C dX6_run_0 1 rfl ?_
  refine x_iconst C 1 dX6_run_1 (by decide) ?_
  refine x_icmp_lt C 12 dX6_run_2 (by decide) (fun c1 => ?_) (fun c1 => ?_)
  · refine x_bipush C (-2) dX6_run_12 (by decide) ?_
    exact x_iret C rfl dX6_run_14 rfl rfl
  · refine x_iload_n C dX6_run_5 1 rfl ?_
    refine x_sipush C 1000 dX6_run_6 (by decide) ?_
    refine x_icmp_le C 15 dX6_run_9 (by decide) (fun c2 => ?_) (fun c2 => ?_)
    · refine x_bipush C (-2) dX6_run_12 (by decide) ?_
      exact x_iret C rfl dX6_run_14 rfl rfl
    · have hN3 := run_nat (by assumption) (by assumption)
      refine x_leq (congrArg (fun (z : Int32) => ([(0, .ref (q 0)), (1, .int z)] : List (Nat × Value))) hN3.1) ?_
      refine x_iconst C 0 dX6_run_15 (by decide) ?_
      refine x_istore_n (L' := [(2, .int 0), (0, .ref (q 0)), (1, .int (nI (ixn xn)))]) C dX6_run_16 (by decide) rfl ?_
      refine x_lsub (L' := [(0, .ref (q 0)), (1, .int (nI (ixn xn))), (2, .int 0)]) [1, 2, 0] rfl ?_
      refine x_loop f_X6_run_t17 (fun (a5 : Sy) => f_X6_run_x17 a5) (ixn xn) 17 (fun (i4 : Nat) (a5 : Sy) => [(0, .ref (q 0)), (1, .int (nI (ixn xn))), (2, .int (nI i4))]) (fun (i4 : Nat) (a5 : Sy) => []) (fun (i4 : Nat) (a5 : Sy) => wLG cI cZ cO q a5) (fun a5 => ?_) (fun i4 a5 K8 hk6 ih7 => ?_) (ixn xn) 0 x (by omega)
      · unfold f_X6_run_x17
        refine x_iload_n C dX6_run_17 2 rfl ?_
        refine x_iload_n C dX6_run_18 1 rfl ?_
        refine x_icmp_ge_t C 32 dX6_run_19 (by decide) Int32.lt_irrefl ?_
        refine x_aload_n C dX6_run_32 0 rfl ?_
        refine x_get (v := .int ((a5 0) 5 0)) C hwsX60 5 mw_230 0 rfl rfl (by decide) rfl rfl dX6_run_33 ?_
        exact x_iret C rfl dX6_run_36 rfl rfl
      · unfold f_X6_run_t17
        refine x_iload_n C dX6_run_17 2 rfl ?_
        refine x_iload_n C dX6_run_18 1 rfl ?_
        refine x_icmp_ge_f C 32 dX6_run_19 (by decide) (nI_lt (b := ixn xn) hk6 (by omega)) ?_
        refine x_aload_n C dX6_run_22 0 rfl ?_
        refine x_cVvW (q0 := 0) (As := []) C mw_283 mw_284 mw_285 mw_37 mw_282 hd_X6_tick rfl rfl ⟨Nat.le_of_ble_eq_true rfl, Nat.le_of_ble_eq_true rfl⟩ rfl rfl rfl (c_X6_tick l D cI cZ cO q a5 ) rfl rfl (Nat.le_of_ble_eq_true rfl) (Nat.zero_le _) (Nat.zero_le _) dX6_run_23 ?_
        unfold f_X6_run_o23
        generalize f_X6_tick a5 = o9
        refine x_iinc (L' := [(2, .int (nI (i4 + 1))), (0, .ref (q 0)), (1, .int (nI (ixn xn)))]) C (nI (i4 + 1)) dX6_run_26 2 rfl (nI_add _ _) (by decide) rfl ?_
        refine x_goto C 17 dX6_run_29 (by decide) ?_
        refine x_lsub (L' := [(0, .ref (q 0)), (1, .int (nI (ixn xn))), (2, .int (nI (i4 + 1)))]) [1, 2, 0] rfl ?_
        exact ih7 o9

def f_X6_settle_x17 (xn : Int32) (a5 : Sy) : Int32 × Sy := (nI (ixn xn), a5)
def f_X6_settle_o30 (g8 : (Sy) → Int32 × Sy) (o10 : Sy) : Int32 × Sy := g8 o10
def f_X6_settle_t17 (i4 : Nat) (a5 : Sy) (g8 : (Sy) → Int32 × Sy) : Int32 × Sy := if (f_X6_unsettled a5) = true then (f_X6_settle_o30 g8 (f_X6_tick a5)) else (nI i4, a5)
def f_X6_settle (x : Sy) (xn : Int32) : Int32 × Sy := if xn < 1 then ((-2), x) else (if 1000 < xn then ((-2), x) else (upr f_X6_settle_t17 (fun (a5 : Sy) => f_X6_settle_x17 xn a5) 0 (ixn xn) x))
theorem hd_X6_settle : yX6_settle.cls ≠ "java/lang/invoke/MethodHandle" ∧ yX6_settle.cls ≠ "java/lang/invoke/VarHandle" ∧ (parseMethodDescriptor yX6_settle.desc).map (fun d => d.parameters.length) = some 1 := by decide +kernel
set_option maxHeartbeats 4000000 in
set_option maxRecDepth 100000 in
theorem c_X6_settle (l : Launch) (D : va_G) (cI cZ cO : ClassId) (q : Nat → Nat) (x : Sy) (xn : Int32)  : CTi l D (T3 cI cZ cO) yX6_settle (Cond.code yX6_settle cX6_settle 3 (some .int) :: WA) ({ frames := 6, cells := 0, slots := 0, locals := 129 } : Room) [.ref (q 0), .int xn] (wLG cI cZ cO q x) ((f_X6_settle x xn).1) (wLG cI cZ cO q (f_X6_settle x xn).2) := by
  refine ct_i (K := fun z => z) (t := f_X6_settle x xn) (rf := fun o => o.1) (wf := fun o => wLG cI cZ cO q o.2) (own := RX6) (nm := "settle") (L0 := [(0, .ref (q 0)), (1, .int xn)]) (plainFor_of_name (by decide +kernel)) rfl rfl (Nat.le_of_ble_eq_true rfl) rfl ?_
  intro p e s m args below meth c A C
  unfold f_X6_settle
  refine x_iload_n C dX6_settle_0 1 rfl ?_
  refine x_iconst C 1 dX6_settle_1 (by decide) ?_
  refine x_icmp_lt C 12 dX6_settle_2 (by decide) (fun c1 => ?_) (fun c1 => ?_)
  · refine x_bipush C (-2) dX6_settle_12 (by decide) ?_
    exact x_iret C rfl dX6_settle_14 rfl rfl
  · refine x_iload_n C dX6_settle_5 1 rfl ?_
    refine x_sipush C 1000 dX6_settle_6 (by decide) ?_
    refine x_icmp_le C 15 dX6_settle_9 (by decide) (fun c2 => ?_) (fun c2 => ?_)
    · refine x_bipush C (-2) dX6_settle_12 (by decide) ?_
      exact x_iret C rfl dX6_settle_14 rfl rfl
    · have hN3 := run_nat (by assumption) (by assumption)
      refine x_leq (congrArg (fun (z : Int32) => ([(0, .ref (q 0)), (1, .int z)] : List (Nat × Value))) hN3.1) ?_
      refine x_iconst C 0 dX6_settle_15 (by decide) ?_
      refine x_istore_n (L' := [(2, .int 0), (0, .ref (q 0)), (1, .int (nI (ixn xn)))]) C dX6_settle_16 (by decide) rfl ?_
      refine x_lsub (L' := [(0, .ref (q 0)), (1, .int (nI (ixn xn))), (2, .int 0)]) [1, 2, 0] rfl ?_
      refine x_loopR f_X6_settle_t17 (fun (a5 : Sy) => f_X6_settle_x17 xn a5) (ixn xn) 17 (fun (i4 : Nat) (a5 : Sy) => [(0, .ref (q 0)), (1, .int (nI (ixn xn))), (2, .int (nI i4))]) (fun (i4 : Nat) (a5 : Sy) => []) (fun (i4 : Nat) (a5 : Sy) => wLG cI cZ cO q a5) (fun a5 => ?_) (fun i4 a5 g8 hk6 ih7 => ?_) (ixn xn) 0 x (by omega)
      · unfold f_X6_settle_x17
        refine x_iload_n C dX6_settle_17 2 rfl ?_
        refine x_iload_n C dX6_settle_18 1 rfl ?_
        refine x_icmp_ge_t C 39 dX6_settle_19 (by decide) Int32.lt_irrefl ?_
        refine x_iload_n C dX6_settle_39 2 rfl ?_
        exact x_iret C rfl dX6_settle_40 rfl rfl
      · unfold f_X6_settle_t17
        refine x_iload_n C dX6_settle_17 2 rfl ?_
        refine x_iload_n C dX6_settle_18 1 rfl ?_
        refine x_icmp_ge_f C 39 dX6_settle_19 (by decide) (nI_lt (b := ixn xn) hk6 (by omega)) ?_
        refine x_aload_n C dX6_settle_22 0 rfl ?_
        refine x_cViW (q0 := 0) (As := []) C mw_291 mw_292 mw_293 mw_37 mw_287 hd_X6_unsettled rfl rfl ⟨Nat.le_of_ble_eq_true rfl, Nat.le_of_ble_eq_true rfl⟩ rfl rfl rfl (c_X6_unsettled l D cI cZ cO q a5 ) rfl rfl (Nat.le_of_ble_eq_true rfl) (Nat.zero_le _) (Nat.zero_le _) dX6_settle_23 ?_
        refine x_if_eqZ C 39 dX6_settle_26 (by decide) (fun c9 => ?_) (fun c9 => ?_)
        · refine x_aload_n C dX6_settle_29 0 rfl ?_
          refine x_cVvW (q0 := 0) (As := []) C mw_283 mw_284 mw_285 mw_37 mw_282 hd_X6_tick rfl rfl ⟨Nat.le_of_ble_eq_true rfl, Nat.le_of_ble_eq_true rfl⟩ rfl rfl rfl (c_X6_tick l D cI cZ cO q a5 ) rfl rfl (Nat.le_of_ble_eq_true rfl) (Nat.zero_le _) (Nat.zero_le _) dX6_settle_30 ?_
          unfold f_X6_settle_o30
          generalize f_X6_tick a5 = o10
          refine x_iinc (L' := [(2, .int (nI (i4 + 1))), (0, .ref (q 0)), (1, .int (nI (ixn xn)))]) C (nI (i4 + 1)) dX6_settle_33 2 rfl (nI_add _ _) (by decide) rfl ?_
          refine x_goto C 17 dX6_settle_36 (by decide) ?_
          refine x_lsub (L' := [(0, .ref (q 0)), (1, .int (nI (ixn xn))), (2, .int (nI (i4 + 1)))]) [1, 2, 0] rfl ?_
          exact ih7 o10
        · refine x_iload_n C dX6_settle_39 2 rfl ?_
          exact x_iret C rfl dX6_settle_40 rfl rfl

def f_X6_plant_l45 (x : Sy) (xw : Int32) (b4 : Unit) : Int32 := if xw = 11 then ((x 1) 6 0) else (if xw = 12 then ((x 1) 7 0) else (if xw = 13 then ((x 1) 5 0) else (if xw = 14 then ((x 1) 9 0) else (if xw = 15 then ((x 0) 4 0) else (if xw = 16 then ((x 1) 10 0) else (if xw = 17 then (f_X6_ordered x) else (-2)))))))
def f_X6_plant_l20 (x : Sy) (xw : Int32) (b2 : Unit) : Int32 := if xw < 6 then (f_X6_plant_l45 x xw ()) else (if xw < 11 then ((x 1) 3 (ixn (xw - 6))) else (f_X6_plant_l45 x xw ()))
def f_X6_plant (x : Sy) (xw : Int32) : Int32 := if xw < 0 then (f_X6_plant_l20 x xw ()) else (if xw < 6 then ((x 1) 1 (ixn xw)) else (f_X6_plant_l20 x xw ()))
theorem hd_X6_plant : yX6_plant.cls ≠ "java/lang/invoke/MethodHandle" ∧ yX6_plant.cls ≠ "java/lang/invoke/VarHandle" ∧ (parseMethodDescriptor yX6_plant.desc).map (fun d => d.parameters.length) = some 1 := by decide +kernel
set_option maxHeartbeats 4000000 in
set_option maxRecDepth 100000 in
theorem c_X6_plant (l : Launch) (D : va_G) (cI cZ cO : ClassId) (q : Nat → Nat) (x : Sy) (xw : Int32)  : CTi l D (T3 cI cZ cO) yX6_plant (Cond.code yX6_plant cX6_plant 2 (some .int) :: WA) ({ frames := 3, cells := 0, slots := 0, locals := 64 } : Room) [.ref (q 0), .int xw] (wLG cI cZ cO q x) ((f_X6_plant x xw)) (wLG cI cZ cO q x) := by
  refine ct_i (K := fun z => z) (t := f_X6_plant x xw) (rf := fun o => o) (wf := fun o => wLG cI cZ cO q x) (own := RX6) (nm := "plant") (L0 := [(0, .ref (q 0)), (1, .int xw)]) (plainFor_of_name (by decide +kernel)) rfl rfl (Nat.le_of_ble_eq_true rfl) rfl ?_
  intro p e s m args below meth c A C
  unfold f_X6_plant
  refine x_iload_n C dX6_plant_0 1 rfl ?_
  refine x_lab (fun (b2 : Unit) => f_X6_plant_l20 x xw b2) 20 (fun (b2 : Unit) => [(0, .ref (q 0)), (1, .int xw)]) (fun (b2 : Unit) => []) (fun (b2 : Unit) => wLG cI cZ cO q x) (fun b2 => ?_) (fun J15 => ?_)
  · unfold f_X6_plant_l20
    refine x_iload_n C dX6_plant_20 1 rfl ?_
    refine x_bipush C 6 dX6_plant_21 (by decide) ?_
    refine x_lab (fun (b4 : Unit) => f_X6_plant_l45 x xw b4) 45 (fun (b4 : Unit) => [(0, .ref (q 0)), (1, .int xw)]) (fun (b4 : Unit) => []) (fun (b4 : Unit) => wLG cI cZ cO q x) (fun b4 => ?_) (fun J12 => ?_)
    · unfold f_X6_plant_l45
      refine x_iload_n C dX6_plant_45 1 rfl ?_
      refine x_split (fun c5 => ?_) (fun c5 => ?_)
      · refine x_tsI C 11 88 dX6_plant_46 (i_eq c5 (by decide : (11 : Int32).toInt = 11)) (by decide) (by decide) rfl (by decide) ?_
        refine x_aload_n C dX6_plant_88 0 rfl ?_
        refine x_get (v := .ref (q 2)) C hwsX60 0 mw_219 0 rfl rfl (by decide) rfl rfl dX6_plant_89 ?_
        refine x_get (v := .int ((x 1) 6 0)) C hwsX20 6 mw_297 2 rfl rfl (by decide) rfl rfl dX6_plant_92 ?_
        exact x_iret C rfl dX6_plant_95 rfl rfl
      · refine x_split (fun c6 => ?_) (fun c6 => ?_)
        · refine x_tsI C 12 96 dX6_plant_46 (i_eq c6 (by decide : (12 : Int32).toInt = 12)) (by decide) (by decide) rfl (by decide) ?_
          refine x_aload_n C dX6_plant_96 0 rfl ?_
          refine x_get (v := .ref (q 2)) C hwsX60 0 mw_219 0 rfl rfl (by decide) rfl rfl dX6_plant_97 ?_
          refine x_get (v := .int ((x 1) 7 0)) C hwsX20 7 mw_298 2 rfl rfl (by decide) rfl rfl dX6_plant_100 ?_
          exact x_iret C rfl dX6_plant_103 rfl rfl
        · refine x_split (fun c7 => ?_) (fun c7 => ?_)
          · refine x_tsI C 13 104 dX6_plant_46 (i_eq c7 (by decide : (13 : Int32).toInt = 13)) (by decide) (by decide) rfl (by decide) ?_
            refine x_aload_n C dX6_plant_104 0 rfl ?_
            refine x_get (v := .ref (q 2)) C hwsX60 0 mw_219 0 rfl rfl (by decide) rfl rfl dX6_plant_105 ?_
            refine x_get (v := .int ((x 1) 5 0)) C hwsX20 5 mw_299 2 rfl rfl (by decide) rfl rfl dX6_plant_108 ?_
            exact x_iret C rfl dX6_plant_111 rfl rfl
          · refine x_split (fun c8 => ?_) (fun c8 => ?_)
            · refine x_tsI C 14 112 dX6_plant_46 (i_eq c8 (by decide : (14 : Int32).toInt = 14)) (by decide) (by decide) rfl (by decide) ?_
              refine x_aload_n C dX6_plant_112 0 rfl ?_
              refine x_get (v := .ref (q 2)) C hwsX60 0 mw_219 0 rfl rfl (by decide) rfl rfl dX6_plant_113 ?_
              refine x_get (v := .int ((x 1) 9 0)) C hwsX20 9 mw_250 2 rfl rfl (by decide) rfl rfl dX6_plant_116 ?_
              exact x_iret C rfl dX6_plant_119 rfl rfl
            · refine x_split (fun c9 => ?_) (fun c9 => ?_)
              · refine x_tsI C 15 120 dX6_plant_46 (i_eq c9 (by decide : (15 : Int32).toInt = 15)) (by decide) (by decide) rfl (by decide) ?_
                refine x_aload_n C dX6_plant_120 0 rfl ?_
                refine x_get (v := .int ((x 0) 4 0)) C hwsX60 4 mw_229 0 rfl rfl (by decide) rfl rfl dX6_plant_121 ?_
                exact x_iret C rfl dX6_plant_124 rfl rfl
              · refine x_split (fun c10 => ?_) (fun c10 => ?_)
                · refine x_tsI C 16 125 dX6_plant_46 (i_eq c10 (by decide : (16 : Int32).toInt = 16)) (by decide) (by decide) rfl (by decide) ?_
                  refine x_aload_n C dX6_plant_125 0 rfl ?_
                  refine x_get (v := .ref (q 2)) C hwsX60 0 mw_219 0 rfl rfl (by decide) rfl rfl dX6_plant_126 ?_
                  refine x_get (v := .int ((x 1) 10 0)) C hwsX20 10 mw_300 2 rfl rfl (by decide) rfl rfl dX6_plant_129 ?_
                  exact x_iret C rfl dX6_plant_132 rfl rfl
                · refine x_split (fun c11 => ?_) (fun c11 => ?_)
                  · refine x_tsI C 17 133 dX6_plant_46 (i_eq c11 (by decide : (17 : Int32).toInt = 17)) (by decide) (by decide) rfl (by decide) ?_
                    refine x_aload_n C dX6_plant_133 0 rfl ?_
                    refine x_cViW (q0 := 0) (As := []) C mw_268 mw_269 mw_270 mw_37 mw_264 hd_X6_ordered rfl rfl ⟨Nat.le_of_ble_eq_true rfl, Nat.le_of_ble_eq_true rfl⟩ rfl rfl rfl (c_X6_ordered l D cI cZ cO q x ) rfl rfl (Nat.le_of_ble_eq_true rfl) (Nat.zero_le _) (Nat.zero_le _) dX6_plant_134 ?_
                    exact x_iret C rfl dX6_plant_137 rfl rfl
                  · refine x_tsO C 138 dX6_plant_46 (by have g0 := i_ne c5 (by decide : (11 : Int32).toInt = 11); have g1 := i_ne c6 (by decide : (12 : Int32).toInt = 12); have g2 := i_ne c7 (by decide : (13 : Int32).toInt = 13); have g3 := i_ne c8 (by decide : (14 : Int32).toInt = 14); have g4 := i_ne c9 (by decide : (15 : Int32).toInt = 15); have g5 := i_ne c10 (by decide : (16 : Int32).toInt = 16); have g6 := i_ne c11 (by decide : (17 : Int32).toInt = 17); omega) (by decide) ?_
                    refine x_bipush C (-2) dX6_plant_138 (by decide) ?_
                    exact x_iret C rfl dX6_plant_140 rfl rfl
    refine x_icmp_lt C 45 dX6_plant_23 (by decide) (fun c3 => ?_) (fun c3 => ?_)
    · exact J12 ()
    · refine x_iload_n C dX6_plant_26 1 rfl ?_
      refine x_bipush C 11 dX6_plant_27 (by decide) ?_
      refine x_icmp_ge C 45 dX6_plant_29 (by decide) (fun c13 => ?_) (fun c13 => ?_)
      · refine x_aload_n C dX6_plant_32 0 rfl ?_
        refine x_get (v := .ref (q 2)) C hwsX60 0 mw_219 0 rfl rfl (by decide) rfl rfl dX6_plant_33 ?_
        refine x_get (v := .ref (q 6)) C hwsX20 3 mw_296 2 rfl rfl (by decide) rfl rfl dX6_plant_36 ?_
        refine x_iload_n C dX6_plant_39 1 rfl ?_
        refine x_bipush C 6 dX6_plant_40 (by decide) ?_
        refine x_isub C dX6_plant_42 ?_
        have hN14 := sub_nat (by assumption) (by assumption)
        refine x_top (nI (ixn (xw - 6))) hN14.1 ?_
        refine x_iald C 6 0 rfl rfl (ixn (xw - 6)) rfl (by omega) (by decide) ((x 1) 3 (ixn (xw - 6))) rfl dX6_plant_43 ?_
        exact x_iret C rfl dX6_plant_44 rfl rfl
      · exact J12 ()
  refine x_if_lt C 20 dX6_plant_1 (by decide) (fun c1 => ?_) (fun c1 => ?_)
  · exact J15 ()
  · refine x_iload_n C dX6_plant_4 1 rfl ?_
    refine x_bipush C 6 dX6_plant_5 (by decide) ?_
    refine x_icmp_ge C 20 dX6_plant_7 (by decide) (fun c16 => ?_) (fun c16 => ?_)
    · refine x_aload_n C dX6_plant_10 0 rfl ?_
      refine x_get (v := .ref (q 2)) C hwsX60 0 mw_219 0 rfl rfl (by decide) rfl rfl dX6_plant_11 ?_
      refine x_get (v := .ref (q 4)) C hwsX20 1 mw_295 2 rfl rfl (by decide) rfl rfl dX6_plant_14 ?_
      refine x_iload_n C dX6_plant_17 1 rfl ?_
      have hN17 := lt_nat 6 (by decide) (by assumption) (by assumption)
      refine x_top (nI (ixn xw)) hN17.1 ?_
      refine x_iald C 4 0 rfl rfl (ixn xw) rfl (by omega) (by decide) ((x 1) 1 (ixn xw)) rfl dX6_plant_18 ?_
      exact x_iret C rfl dX6_plant_19 rfl rfl
    · exact J15 ()

def f_X6_about (x : Sy) (xm : Int32) (xw : Int32) : Int32 := if (f_X6_outside xm 1) = true then (-2) else (if xm = 0 then (f_X0_fact (x 3) (x 4) (x 5) xw) else (f_X0_fact (x 6) (x 7) (x 8) xw))
theorem hd_X6_about : yX6_about.cls ≠ "java/lang/invoke/MethodHandle" ∧ yX6_about.cls ≠ "java/lang/invoke/VarHandle" ∧ (parseMethodDescriptor yX6_about.desc).map (fun d => d.parameters.length) = some 2 := by decide +kernel
set_option maxHeartbeats 4000000 in
set_option maxRecDepth 100000 in
theorem c_X6_about (l : Launch) (D : va_G) (cI cZ cO : ClassId) (q : Nat → Nat) (x : Sy) (xm : Int32) (xw : Int32)  : CTi l D (T3 cI cZ cO) yX6_about (Cond.code yX6_about cX6_about 3 (some .int) :: WA) ({ frames := 3, cells := 0, slots := 0, locals := 63 } : Room) [.ref (q 0), .int xm, .int xw] (wLG cI cZ cO q x) ((f_X6_about x xm xw)) (wLG cI cZ cO q x) := by
  refine ct_i (K := fun z => z) (t := f_X6_about x xm xw) (rf := fun o => o) (wf := fun o => wLG cI cZ cO q x) (own := RX6) (nm := "about") (L0 := [(0, .ref (q 0)), (1, .int xm), (2, .int xw)]) (plainFor_of_name (by decide +kernel)) rfl rfl (Nat.le_of_ble_eq_true rfl) rfl ?_
  intro p e s m args below meth c A C
  unfold f_X6_about
  refine x_iload_n C dX6_about_0 1 rfl ?_
  refine x_iconst C 1 dX6_about_1 (by decide) ?_
  refine x_cSi (As := [.int xm, .int 1]) (ws' := wLG cI cZ cO q x) C mw_245 mw_36 mw_37 mw_34 hd_X6_outside rfl rfl ⟨Nat.le_of_ble_eq_true rfl, Nat.le_of_ble_eq_true rfl⟩ (c_X6_outside l D cI cZ cO  xm 1 ) [] [.inl 0, .inl 1, .inl 2, .inl 3, .inl 4, .inl 5, .inl 6, .inl 7, .inl 8, .inl 9, .inl 10, .inl 11, .inl 12, .inl 13, .inl 14, .inl 15, .inl 16, .inl 17, .inl 18, .inl 19, .inl 20, .inl 21, .inl 22, .inl 23, .inl 24] trivial rfl ⟨rfl, rfl, rfl, rfl, rfl, rfl, rfl, rfl, rfl, rfl, rfl, rfl, rfl, rfl, rfl, rfl, rfl, rfl, rfl, rfl, rfl, rfl, rfl, rfl, rfl, trivial⟩ rfl ⟨rfl, rfl, rfl, rfl, rfl, rfl, rfl, rfl, rfl, rfl, rfl, rfl, rfl, rfl, rfl, rfl, rfl, rfl, rfl, rfl, rfl, rfl, rfl, rfl, rfl, trivial⟩ rfl rfl (Nat.le_of_ble_eq_true rfl) (Nat.zero_le _) (Nat.zero_le _) dX6_about_2 ?_
  refine x_if_eqZ C 13 dX6_about_5 (by decide) (fun c1 => ?_) (fun c1 => ?_)
  · refine x_bipush C (-2) dX6_about_8 (by decide) ?_
    refine x_goto C 23 dX6_about_10 (by decide) ?_
    exact x_iret C rfl dX6_about_23 rfl rfl
  · refine x_split (fun c2 => ?_) (fun c2 => ?_)
    · refine x_leq (congrArg (fun (z : Int32) => ([(0, .ref (q 0)), (1, .int z), (2, .int xw)] : List (Nat × Value))) (c2 : xm = 0)) ?_
      refine x_aload_n C dX6_about_13 0 rfl ?_
      refine x_get (v := .ref (q 1)) C hwsX60 2 mw_224 0 rfl rfl (by decide) rfl rfl dX6_about_14 ?_
      refine x_iload_n C dX6_about_17 1 rfl ?_
      refine x_aald C 1 2 rfl rfl 0 rfl (by decide) (by decide) rfl dX6_about_18 ?_
      refine x_iload_n C dX6_about_19 2 rfl ?_
      refine x_cVi (q0 := 11) (As := [.int xw]) (ws' := wLG cI cZ cO q x) C mw_303 mw_304 mw_305 mw_46 mw_38 hd_X0_fact rfl rfl ⟨Nat.le_of_ble_eq_true rfl, Nat.le_of_ble_eq_true rfl⟩ rfl rfl rfl (c_X0_fact l D cI cZ cO (q 11) (q 12) (q 13) (q 14) (q 15) (q 16) (x 3) (x 4) (x 5) xw ) [11, 12, 13, 14, 15, 16] [.inl 0, .inl 1, .inl 2, .inl 3, .inl 4, .inl 5, .inl 6, .inl 7, .inl 8, .inl 9, .inl 10, .inr 0, .inr 1, .inr 2, .inr 3, .inr 4, .inr 5, .inl 17, .inl 18, .inl 19, .inl 20, .inl 21, .inl 22, .inl 23, .inl 24] ⟨rfl, rfl, rfl, rfl, rfl, rfl, trivial⟩ rfl ⟨rfl, rfl, rfl, rfl, rfl, rfl, rfl, rfl, rfl, rfl, rfl, rfl, rfl, rfl, rfl, rfl, rfl, rfl, rfl, rfl, rfl, rfl, rfl, rfl, rfl, trivial⟩ rfl ⟨rfl, rfl, rfl, rfl, rfl, rfl, rfl, rfl, rfl, rfl, rfl, rfl, rfl, rfl, rfl, rfl, rfl, rfl, rfl, rfl, rfl, rfl, rfl, rfl, rfl, trivial⟩ rfl rfl (Nat.le_of_ble_eq_true rfl) (Nat.zero_le _) (Nat.zero_le _) dX6_about_20 ?_
      exact x_iret C rfl dX6_about_23 rfl rfl
    · refine x_leq (congrArg (fun (z : Int32) => ([(0, .ref (q 0)), (1, .int z), (2, .int xw)] : List (Nat × Value))) (case01 (by assumption) c2 : xm = 1)) ?_
      refine x_aload_n C dX6_about_13 0 rfl ?_
      refine x_get (v := .ref (q 1)) C hwsX60 2 mw_224 0 rfl rfl (by decide) rfl rfl dX6_about_14 ?_
      refine x_iload_n C dX6_about_17 1 rfl ?_
      refine x_aald C 1 2 rfl rfl 1 rfl (by decide) (by decide) rfl dX6_about_18 ?_
      refine x_iload_n C dX6_about_19 2 rfl ?_
      refine x_cVi (q0 := 17) (As := [.int xw]) (ws' := wLG cI cZ cO q x) C mw_303 mw_304 mw_305 mw_46 mw_38 hd_X0_fact rfl rfl ⟨Nat.le_of_ble_eq_true rfl, Nat.le_of_ble_eq_true rfl⟩ rfl rfl rfl (c_X0_fact l D cI cZ cO (q 17) (q 18) (q 19) (q 20) (q 21) (q 22) (x 6) (x 7) (x 8) xw ) [17, 18, 19, 20, 21, 22] [.inl 0, .inl 1, .inl 2, .inl 3, .inl 4, .inl 5, .inl 6, .inl 7, .inl 8, .inl 9, .inl 10, .inl 11, .inl 12, .inl 13, .inl 14, .inl 15, .inl 16, .inr 0, .inr 1, .inr 2, .inr 3, .inr 4, .inr 5, .inl 23, .inl 24] ⟨rfl, rfl, rfl, rfl, rfl, rfl, trivial⟩ rfl ⟨rfl, rfl, rfl, rfl, rfl, rfl, rfl, rfl, rfl, rfl, rfl, rfl, rfl, rfl, rfl, rfl, rfl, rfl, rfl, rfl, rfl, rfl, rfl, rfl, rfl, trivial⟩ rfl ⟨rfl, rfl, rfl, rfl, rfl, rfl, rfl, rfl, rfl, rfl, rfl, rfl, rfl, rfl, rfl, rfl, rfl, rfl, rfl, rfl, rfl, rfl, rfl, rfl, rfl, trivial⟩ rfl rfl (Nat.le_of_ble_eq_true rfl) (Nat.zero_le _) (Nat.zero_le _) dX6_about_20 ?_
      exact x_iret C rfl dX6_about_23 rfl rfl

def f_X6_sees (x : Sy) (xm : Int32) (xs : Int32) (xw : Int32) : Int32 := if (f_X6_outside xm 1) = true then (-2) else (if (f_X6_outside xs 17) = true then (-2) else (if (f_X6_outside xw 1) = true then (-2) else (if xm = 0 then (if xw = 0 then ((x 4) 0 (ixn xs)) else ((x 4) 1 (ixn xs))) else (if xw = 0 then ((x 7) 0 (ixn xs)) else ((x 7) 1 (ixn xs))))))
theorem hd_X6_sees : yX6_sees.cls ≠ "java/lang/invoke/MethodHandle" ∧ yX6_sees.cls ≠ "java/lang/invoke/VarHandle" ∧ (parseMethodDescriptor yX6_sees.desc).map (fun d => d.parameters.length) = some 3 := by decide +kernel
set_option maxHeartbeats 4000000 in
set_option maxRecDepth 100000 in
theorem c_X6_sees (l : Launch) (D : va_G) (cI cZ cO : ClassId) (q : Nat → Nat) (x : Sy) (xm : Int32) (xs : Int32) (xw : Int32)  : CTi l D (T3 cI cZ cO) yX6_sees (Cond.code yX6_sees cX6_sees 5 (some .int) :: WA) ({ frames := 1, cells := 0, slots := 0, locals := 21 } : Room) [.ref (q 0), .int xm, .int xs, .int xw] (wLG cI cZ cO q x) ((f_X6_sees x xm xs xw)) (wLG cI cZ cO q x) := by
  refine ct_i (K := fun z => z) (t := f_X6_sees x xm xs xw) (rf := fun o => o) (wf := fun o => wLG cI cZ cO q x) (own := RX6) (nm := "sees") (L0 := [(0, .ref (q 0)), (1, .int xm), (2, .int xs), (3, .int xw)]) (plainFor_of_name (by decide +kernel)) rfl rfl (Nat.le_of_ble_eq_true rfl) rfl ?_
  intro p e s m args below meth c A C
  unfold f_X6_sees
  refine x_iload_n C dX6_sees_0 1 rfl ?_
  refine x_iconst C 1 dX6_sees_1 (by decide) ?_
  refine x_cSi (As := [.int xm, .int 1]) (ws' := wLG cI cZ cO q x) C mw_245 mw_36 mw_37 mw_34 hd_X6_outside rfl rfl ⟨Nat.le_of_ble_eq_true rfl, Nat.le_of_ble_eq_true rfl⟩ (c_X6_outside l D cI cZ cO  xm 1 ) [] [.inl 0, .inl 1, .inl 2, .inl 3, .inl 4, .inl 5, .inl 6, .inl 7, .inl 8, .inl 9, .inl 10, .inl 11, .inl 12, .inl 13, .inl 14, .inl 15, .inl 16, .inl 17, .inl 18, .inl 19, .inl 20, .inl 21, .inl 22, .inl 23, .inl 24] trivial rfl ⟨rfl, rfl, rfl, rfl, rfl, rfl, rfl, rfl, rfl, rfl, rfl, rfl, rfl, rfl, rfl, rfl, rfl, rfl, rfl, rfl, rfl, rfl, rfl, rfl, rfl, trivial⟩ rfl ⟨rfl, rfl, rfl, rfl, rfl, rfl, rfl, rfl, rfl, rfl, rfl, rfl, rfl, rfl, rfl, rfl, rfl, rfl, rfl, rfl, rfl, rfl, rfl, rfl, rfl, trivial⟩ rfl rfl (Nat.le_of_ble_eq_true rfl) (Nat.zero_le _) (Nat.zero_le _) dX6_sees_2 ?_
  refine x_if_neZ C 25 dX6_sees_5 (by decide) (fun c1 => ?_) (fun c1 => ?_)
  · refine x_bipush C (-2) dX6_sees_25 (by decide) ?_
    exact x_iret C rfl dX6_sees_27 rfl rfl
  · refine x_iload_n C dX6_sees_8 2 rfl ?_
    refine x_bipush C 17 dX6_sees_9 (by decide) ?_
    refine x_cSi (As := [.int xs, .int 17]) (ws' := wLG cI cZ cO q x) C mw_245 mw_36 mw_37 mw_34 hd_X6_outside rfl rfl ⟨Nat.le_of_ble_eq_true rfl, Nat.le_of_ble_eq_true rfl⟩ (c_X6_outside l D cI cZ cO  xs 17 ) [] [.inl 0, .inl 1, .inl 2, .inl 3, .inl 4, .inl 5, .inl 6, .inl 7, .inl 8, .inl 9, .inl 10, .inl 11, .inl 12, .inl 13, .inl 14, .inl 15, .inl 16, .inl 17, .inl 18, .inl 19, .inl 20, .inl 21, .inl 22, .inl 23, .inl 24] trivial rfl ⟨rfl, rfl, rfl, rfl, rfl, rfl, rfl, rfl, rfl, rfl, rfl, rfl, rfl, rfl, rfl, rfl, rfl, rfl, rfl, rfl, rfl, rfl, rfl, rfl, rfl, trivial⟩ rfl ⟨rfl, rfl, rfl, rfl, rfl, rfl, rfl, rfl, rfl, rfl, rfl, rfl, rfl, rfl, rfl, rfl, rfl, rfl, rfl, rfl, rfl, rfl, rfl, rfl, rfl, trivial⟩ rfl rfl (Nat.le_of_ble_eq_true rfl) (Nat.zero_le _) (Nat.zero_le _) dX6_sees_11 ?_
    refine x_if_neZ C 25 dX6_sees_14 (by decide) (fun c2 => ?_) (fun c2 => ?_)
    · refine x_bipush C (-2) dX6_sees_25 (by decide) ?_
      exact x_iret C rfl dX6_sees_27 rfl rfl
    · refine x_iload_n C dX6_sees_17 3 rfl ?_
      refine x_iconst C 1 dX6_sees_18 (by decide) ?_
      refine x_cSi (As := [.int xw, .int 1]) (ws' := wLG cI cZ cO q x) C mw_245 mw_36 mw_37 mw_34 hd_X6_outside rfl rfl ⟨Nat.le_of_ble_eq_true rfl, Nat.le_of_ble_eq_true rfl⟩ (c_X6_outside l D cI cZ cO  xw 1 ) [] [.inl 0, .inl 1, .inl 2, .inl 3, .inl 4, .inl 5, .inl 6, .inl 7, .inl 8, .inl 9, .inl 10, .inl 11, .inl 12, .inl 13, .inl 14, .inl 15, .inl 16, .inl 17, .inl 18, .inl 19, .inl 20, .inl 21, .inl 22, .inl 23, .inl 24] trivial rfl ⟨rfl, rfl, rfl, rfl, rfl, rfl, rfl, rfl, rfl, rfl, rfl, rfl, rfl, rfl, rfl, rfl, rfl, rfl, rfl, rfl, rfl, rfl, rfl, rfl, rfl, trivial⟩ rfl ⟨rfl, rfl, rfl, rfl, rfl, rfl, rfl, rfl, rfl, rfl, rfl, rfl, rfl, rfl, rfl, rfl, rfl, rfl, rfl, rfl, rfl, rfl, rfl, rfl, rfl, trivial⟩ rfl rfl (Nat.le_of_ble_eq_true rfl) (Nat.zero_le _) (Nat.zero_le _) dX6_sees_19 ?_
      refine x_if_eqZ C 28 dX6_sees_22 (by decide) (fun c3 => ?_) (fun c3 => ?_)
      · refine x_bipush C (-2) dX6_sees_25 (by decide) ?_
        exact x_iret C rfl dX6_sees_27 rfl rfl
      · have hN4 := out_nat 17 (by decide) (g := 17) rfl (by assumption : f_X6_outside xs 17 = false)
        refine x_leq (congrArg (fun (z : Int32) => ([(0, .ref (q 0)), (1, .int xm), (2, .int z), (3, .int xw)] : List (Nat × Value))) hN4.1) ?_
        refine x_split (fun c5 => ?_) (fun c5 => ?_)
        · refine x_leq (congrArg (fun (z : Int32) => ([(0, .ref (q 0)), (1, .int z), (2, .int (nI (ixn xs))), (3, .int xw)] : List (Nat × Value))) (c5 : xm = 0)) ?_
          refine x_aload_n C dX6_sees_28 0 rfl ?_
          refine x_get (v := .ref (q 1)) C hwsX60 2 mw_224 0 rfl rfl (by decide) rfl rfl dX6_sees_29 ?_
          refine x_iload_n C dX6_sees_32 1 rfl ?_
          refine x_aald C 1 2 rfl rfl 0 rfl (by decide) (by decide) rfl dX6_sees_33 ?_
          refine x_get (v := .ref (q 12)) C hwsX00 1 mw_307 11 rfl rfl (by decide) rfl rfl dX6_sees_34 ?_
          refine x_astore (L' := [(4, .ref (q 12)), (0, .ref (q 0)), (1, .int 0), (2, .int (nI (ixn xs))), (3, .int xw)]) C dX6_sees_37 (by decide) rfl ?_
          refine x_iload_n C dX6_sees_39 4 rfl ?_
          refine x_if_ne C 53 dX6_sees_40 (by decide) (fun c6 => ?_) (fun c6 => ?_)
          · refine x_aload C dX6_sees_43 0 rfl ?_
            refine x_get (v := .ref (q 13)) C hwsX40 0 mw_308 12 rfl rfl (by decide) rfl rfl dX6_sees_45 ?_
            refine x_iload_n C dX6_sees_48 3 rfl ?_
            refine x_iald C 13 0 rfl rfl (ixn xs) rfl (by omega) (by decide) ((x 4) 0 (ixn xs)) rfl dX6_sees_49 ?_
            refine x_goto C 60 dX6_sees_50 (by decide) ?_
            exact x_iret C rfl dX6_sees_60 rfl rfl
          · refine x_aload C dX6_sees_53 0 rfl ?_
            refine x_get (v := .ref (q 14)) C hwsX40 1 mw_309 12 rfl rfl (by decide) rfl rfl dX6_sees_55 ?_
            refine x_iload_n C dX6_sees_58 3 rfl ?_
            refine x_iald C 14 0 rfl rfl (ixn xs) rfl (by omega) (by decide) ((x 4) 1 (ixn xs)) rfl dX6_sees_59 ?_
            exact x_iret C rfl dX6_sees_60 rfl rfl
        · refine x_leq (congrArg (fun (z : Int32) => ([(0, .ref (q 0)), (1, .int z), (2, .int (nI (ixn xs))), (3, .int xw)] : List (Nat × Value))) (case01 (by assumption) c5 : xm = 1)) ?_
          refine x_aload_n C dX6_sees_28 0 rfl ?_
          refine x_get (v := .ref (q 1)) C hwsX60 2 mw_224 0 rfl rfl (by decide) rfl rfl dX6_sees_29 ?_
          refine x_iload_n C dX6_sees_32 1 rfl ?_
          refine x_aald C 1 2 rfl rfl 1 rfl (by decide) (by decide) rfl dX6_sees_33 ?_
          refine x_get (v := .ref (q 18)) C hwsX00 1 mw_307 17 rfl rfl (by decide) rfl rfl dX6_sees_34 ?_
          refine x_astore (L' := [(4, .ref (q 18)), (0, .ref (q 0)), (1, .int 1), (2, .int (nI (ixn xs))), (3, .int xw)]) C dX6_sees_37 (by decide) rfl ?_
          refine x_iload_n C dX6_sees_39 4 rfl ?_
          refine x_if_ne C 53 dX6_sees_40 (by decide) (fun c7 => ?_) (fun c7 => ?_)
          · refine x_aload C dX6_sees_43 0 rfl ?_
            refine x_get (v := .ref (q 19)) C hwsX40 0 mw_308 18 rfl rfl (by decide) rfl rfl dX6_sees_45 ?_
            refine x_iload_n C dX6_sees_48 3 rfl ?_
            refine x_iald C 19 0 rfl rfl (ixn xs) rfl (by omega) (by decide) ((x 7) 0 (ixn xs)) rfl dX6_sees_49 ?_
            refine x_goto C 60 dX6_sees_50 (by decide) ?_
            exact x_iret C rfl dX6_sees_60 rfl rfl
          · refine x_aload C dX6_sees_53 0 rfl ?_
            refine x_get (v := .ref (q 20)) C hwsX40 1 mw_309 18 rfl rfl (by decide) rfl rfl dX6_sees_55 ?_
            refine x_iload_n C dX6_sees_58 3 rfl ?_
            refine x_iald C 20 0 rfl rfl (ixn xs) rfl (by omega) (by decide) ((x 7) 1 (ixn xs)) rfl dX6_sees_59 ?_
            exact x_iret C rfl dX6_sees_60 rfl rfl

def f_X6_tells (x : Sy) (xs : Int32) (xc : Int32) : Int32 := if (f_X6_outside xs 17) = true then (-2) else (if (f_X6_outside xc 2) = true then (-2) else (f_X3_told (x 2) (ixn xs) (ixn xc)))
theorem hd_X6_tells : yX6_tells.cls ≠ "java/lang/invoke/MethodHandle" ∧ yX6_tells.cls ≠ "java/lang/invoke/VarHandle" ∧ (parseMethodDescriptor yX6_tells.desc).map (fun d => d.parameters.length) = some 2 := by decide +kernel
set_option maxHeartbeats 4000000 in
set_option maxRecDepth 100000 in
theorem c_X6_tells (l : Launch) (D : va_G) (cI cZ cO : ClassId) (q : Nat → Nat) (x : Sy) (xs : Int32) (xc : Int32)  : CTi l D (T3 cI cZ cO) yX6_tells (Cond.code yX6_tells cX6_tells 3 (some .int) :: WA) ({ frames := 1, cells := 0, slots := 0, locals := 22 } : Room) [.ref (q 0), .int xs, .int xc] (wLG cI cZ cO q x) ((f_X6_tells x xs xc)) (wLG cI cZ cO q x) := by
  refine ct_i (K := fun z => z) (t := f_X6_tells x xs xc) (rf := fun o => o) (wf := fun o => wLG cI cZ cO q x) (own := RX6) (nm := "tells") (L0 := [(0, .ref (q 0)), (1, .int xs), (2, .int xc)]) (plainFor_of_name (by decide +kernel)) rfl rfl (Nat.le_of_ble_eq_true rfl) rfl ?_
  intro p e s m args below meth c A C
  unfold f_X6_tells
  refine x_iload_n C dX6_tells_0 1 rfl ?_
  refine x_bipush C 17 dX6_tells_1 (by decide) ?_
  refine x_cSi (As := [.int xs, .int 17]) (ws' := wLG cI cZ cO q x) C mw_245 mw_36 mw_37 mw_34 hd_X6_outside rfl rfl ⟨Nat.le_of_ble_eq_true rfl, Nat.le_of_ble_eq_true rfl⟩ (c_X6_outside l D cI cZ cO  xs 17 ) [] [.inl 0, .inl 1, .inl 2, .inl 3, .inl 4, .inl 5, .inl 6, .inl 7, .inl 8, .inl 9, .inl 10, .inl 11, .inl 12, .inl 13, .inl 14, .inl 15, .inl 16, .inl 17, .inl 18, .inl 19, .inl 20, .inl 21, .inl 22, .inl 23, .inl 24] trivial rfl ⟨rfl, rfl, rfl, rfl, rfl, rfl, rfl, rfl, rfl, rfl, rfl, rfl, rfl, rfl, rfl, rfl, rfl, rfl, rfl, rfl, rfl, rfl, rfl, rfl, rfl, trivial⟩ rfl ⟨rfl, rfl, rfl, rfl, rfl, rfl, rfl, rfl, rfl, rfl, rfl, rfl, rfl, rfl, rfl, rfl, rfl, rfl, rfl, rfl, rfl, rfl, rfl, rfl, rfl, trivial⟩ rfl rfl (Nat.le_of_ble_eq_true rfl) (Nat.zero_le _) (Nat.zero_le _) dX6_tells_3 ?_
  refine x_if_neZ C 17 dX6_tells_6 (by decide) (fun c1 => ?_) (fun c1 => ?_)
  · refine x_bipush C (-2) dX6_tells_17 (by decide) ?_
    exact x_iret C rfl dX6_tells_19 rfl rfl
  · refine x_iload_n C dX6_tells_9 2 rfl ?_
    refine x_iconst C 2 dX6_tells_10 (by decide) ?_
    refine x_cSi (As := [.int xc, .int 2]) (ws' := wLG cI cZ cO q x) C mw_245 mw_36 mw_37 mw_34 hd_X6_outside rfl rfl ⟨Nat.le_of_ble_eq_true rfl, Nat.le_of_ble_eq_true rfl⟩ (c_X6_outside l D cI cZ cO  xc 2 ) [] [.inl 0, .inl 1, .inl 2, .inl 3, .inl 4, .inl 5, .inl 6, .inl 7, .inl 8, .inl 9, .inl 10, .inl 11, .inl 12, .inl 13, .inl 14, .inl 15, .inl 16, .inl 17, .inl 18, .inl 19, .inl 20, .inl 21, .inl 22, .inl 23, .inl 24] trivial rfl ⟨rfl, rfl, rfl, rfl, rfl, rfl, rfl, rfl, rfl, rfl, rfl, rfl, rfl, rfl, rfl, rfl, rfl, rfl, rfl, rfl, rfl, rfl, rfl, rfl, rfl, trivial⟩ rfl ⟨rfl, rfl, rfl, rfl, rfl, rfl, rfl, rfl, rfl, rfl, rfl, rfl, rfl, rfl, rfl, rfl, rfl, rfl, rfl, rfl, rfl, rfl, rfl, rfl, rfl, trivial⟩ rfl rfl (Nat.le_of_ble_eq_true rfl) (Nat.zero_le _) (Nat.zero_le _) dX6_tells_11 ?_
    refine x_if_eqZ C 20 dX6_tells_14 (by decide) (fun c2 => ?_) (fun c2 => ?_)
    · refine x_bipush C (-2) dX6_tells_17 (by decide) ?_
      exact x_iret C rfl dX6_tells_19 rfl rfl
    · have hN3 := out_nat 17 (by decide) (g := 17) rfl (by assumption : f_X6_outside xs 17 = false)
      refine x_leq (congrArg (fun (z : Int32) => ([(0, .ref (q 0)), (1, .int z), (2, .int xc)] : List (Nat × Value))) hN3.1) ?_
      have hN4 := out_nat 2 (by decide) (g := 2) rfl (by assumption : f_X6_outside xc 2 = false)
      refine x_leq (congrArg (fun (z : Int32) => ([(0, .ref (q 0)), (1, .int (nI (ixn xs))), (2, .int z)] : List (Nat × Value))) hN4.1) ?_
      refine x_aload_n C dX6_tells_20 0 rfl ?_
      refine x_get (v := .ref (q 8)) C hwsX60 1 mw_222 0 rfl rfl (by decide) rfl rfl dX6_tells_21 ?_
      refine x_iload_n C dX6_tells_24 1 rfl ?_
      refine x_iload_n C dX6_tells_25 2 rfl ?_
      refine x_cVi (q0 := 8) (As := [.int (nI (ixn xs)), .int (nI (ixn xc))]) (ws' := wLG cI cZ cO q x) C mw_311 mw_63 mw_64 mw_65 mw_58 hd_X3_told rfl rfl ⟨Nat.le_of_ble_eq_true rfl, Nat.le_of_ble_eq_true rfl⟩ rfl rfl rfl (c_X3_told l D cI cZ cO (q 8) (q 9) (q 10) (x 2) (ixn xs) (ixn xc) (by omega) (by omega)) [8, 9, 10] [.inl 0, .inl 1, .inl 2, .inl 3, .inl 4, .inl 5, .inl 6, .inl 7, .inr 0, .inr 1, .inr 2, .inl 11, .inl 12, .inl 13, .inl 14, .inl 15, .inl 16, .inl 17, .inl 18, .inl 19, .inl 20, .inl 21, .inl 22, .inl 23, .inl 24] ⟨rfl, rfl, rfl, trivial⟩ rfl ⟨rfl, rfl, rfl, rfl, rfl, rfl, rfl, rfl, rfl, rfl, rfl, rfl, rfl, rfl, rfl, rfl, rfl, rfl, rfl, rfl, rfl, rfl, rfl, rfl, rfl, trivial⟩ rfl ⟨rfl, rfl, rfl, rfl, rfl, rfl, rfl, rfl, rfl, rfl, rfl, rfl, rfl, rfl, rfl, rfl, rfl, rfl, rfl, rfl, rfl, rfl, rfl, rfl, rfl, trivial⟩ rfl rfl (Nat.le_of_ble_eq_true rfl) (Nat.zero_le _) (Nat.zero_le _) dX6_tells_26 ?_
      exact x_iret C rfl dX6_tells_29 rfl rfl

def f_X6_lights (x : Sy) : Int32 := (x 0) 5 0
theorem hd_X6_lights : yX6_lights.cls ≠ "java/lang/invoke/MethodHandle" ∧ yX6_lights.cls ≠ "java/lang/invoke/VarHandle" ∧ (parseMethodDescriptor yX6_lights.desc).map (fun d => d.parameters.length) = some 0 := by decide +kernel
set_option maxHeartbeats 4000000 in
set_option maxRecDepth 100000 in
theorem c_X6_lights (l : Launch) (D : va_G) (cI cZ cO : ClassId) (q : Nat → Nat) (x : Sy)  : CTi l D (T3 cI cZ cO) yX6_lights (Cond.code yX6_lights cX6_lights 1 (some .int) :: WA) ({ frames := 0, cells := 0, slots := 0, locals := 0 } : Room) [.ref (q 0)] (wLG cI cZ cO q x) ((f_X6_lights x)) (wLG cI cZ cO q x) := by
  refine ct_i (K := fun z => z) (t := f_X6_lights x) (rf := fun o => o) (wf := fun o => wLG cI cZ cO q x) (own := RX6) (nm := "lights") (L0 := [(0, .ref (q 0))]) (plainFor_of_name (by decide +kernel)) rfl rfl (Nat.le_of_ble_eq_true rfl) rfl ?_
  intro p e s m args below meth c A C
  unfold f_X6_lights
  refine x_aload_n C dX6_lights_0 0 rfl ?_
  refine x_get (v := .int ((x 0) 5 0)) C hwsX60 5 mw_230 0 rfl rfl (by decide) rfl rfl dX6_lights_1 ?_
  exact x_iret C rfl dX6_lights_4 rfl rfl

def f_X6_log (x : Sy) (xi : Int32) (xw : Int32) : Int32 := if (f_X6_outside xw 2) = true then (-2) else (f_X1_number (x 9) xi (ixn xw))
theorem hd_X6_log : yX6_log.cls ≠ "java/lang/invoke/MethodHandle" ∧ yX6_log.cls ≠ "java/lang/invoke/VarHandle" ∧ (parseMethodDescriptor yX6_log.desc).map (fun d => d.parameters.length) = some 2 := by decide +kernel
set_option maxHeartbeats 4000000 in
set_option maxRecDepth 100000 in
theorem c_X6_log (l : Launch) (D : va_G) (cI cZ cO : ClassId) (q : Nat → Nat) (x : Sy) (xi : Int32) (xw : Int32)  : CTi l D (T3 cI cZ cO) yX6_log (Cond.code yX6_log cX6_log 3 (some .int) :: WA) ({ frames := 2, cells := 0, slots := 0, locals := 44 } : Room) [.ref (q 0), .int xi, .int xw] (wLG cI cZ cO q x) ((f_X6_log x xi xw)) (wLG cI cZ cO q x) := by
  refine ct_i (K := fun z => z) (t := f_X6_log x xi xw) (rf := fun o => o) (wf := fun o => wLG cI cZ cO q x) (own := RX6) (nm := "log") (L0 := [(0, .ref (q 0)), (1, .int xi), (2, .int xw)]) (plainFor_of_name (by decide +kernel)) rfl rfl (Nat.le_of_ble_eq_true rfl) rfl ?_
  intro p e s m args below meth c A C
  unfold f_X6_log
  refine x_iload_n C dX6_log_0 2 rfl ?_
  refine x_iconst C 2 dX6_log_1 (by decide) ?_
  refine x_cSi (As := [.int xw, .int 2]) (ws' := wLG cI cZ cO q x) C mw_245 mw_36 mw_37 mw_34 hd_X6_outside rfl rfl ⟨Nat.le_of_ble_eq_true rfl, Nat.le_of_ble_eq_true rfl⟩ (c_X6_outside l D cI cZ cO  xw 2 ) [] [.inl 0, .inl 1, .inl 2, .inl 3, .inl 4, .inl 5, .inl 6, .inl 7, .inl 8, .inl 9, .inl 10, .inl 11, .inl 12, .inl 13, .inl 14, .inl 15, .inl 16, .inl 17, .inl 18, .inl 19, .inl 20, .inl 21, .inl 22, .inl 23, .inl 24] trivial rfl ⟨rfl, rfl, rfl, rfl, rfl, rfl, rfl, rfl, rfl, rfl, rfl, rfl, rfl, rfl, rfl, rfl, rfl, rfl, rfl, rfl, rfl, rfl, rfl, rfl, rfl, trivial⟩ rfl ⟨rfl, rfl, rfl, rfl, rfl, rfl, rfl, rfl, rfl, rfl, rfl, rfl, rfl, rfl, rfl, rfl, rfl, rfl, rfl, rfl, rfl, rfl, rfl, rfl, rfl, trivial⟩ rfl rfl (Nat.le_of_ble_eq_true rfl) (Nat.zero_le _) (Nat.zero_le _) dX6_log_2 ?_
  refine x_if_eqZ C 13 dX6_log_5 (by decide) (fun c1 => ?_) (fun c1 => ?_)
  · refine x_bipush C (-2) dX6_log_8 (by decide) ?_
    refine x_goto C 22 dX6_log_10 (by decide) ?_
    exact x_iret C rfl dX6_log_22 rfl rfl
  · have hN2 := out_nat 2 (by decide) (g := 2) rfl (by assumption : f_X6_outside xw 2 = false)
    refine x_leq (congrArg (fun (z : Int32) => ([(0, .ref (q 0)), (1, .int xi), (2, .int z)] : List (Nat × Value))) hN2.1) ?_
    refine x_aload_n C dX6_log_13 0 rfl ?_
    refine x_get (v := .ref (q 23)) C hwsX60 3 mw_228 0 rfl rfl (by decide) rfl rfl dX6_log_14 ?_
    refine x_iload_n C dX6_log_17 1 rfl ?_
    refine x_iload_n C dX6_log_18 2 rfl ?_
    refine x_cVi (q0 := 23) (As := [.int xi, .int (nI (ixn xw))]) (ws' := wLG cI cZ cO q x) C mw_314 mw_315 mw_316 mw_144 mw_154 hd_X1_number rfl rfl ⟨Nat.le_of_ble_eq_true rfl, Nat.le_of_ble_eq_true rfl⟩ rfl rfl rfl (c_X1_number l D cI cZ cO (q 23) (q 24) (x 9) xi (ixn xw) (by omega)) [23, 24] [.inl 0, .inl 1, .inl 2, .inl 3, .inl 4, .inl 5, .inl 6, .inl 7, .inl 8, .inl 9, .inl 10, .inl 11, .inl 12, .inl 13, .inl 14, .inl 15, .inl 16, .inl 17, .inl 18, .inl 19, .inl 20, .inl 21, .inl 22, .inr 0, .inr 1] ⟨rfl, rfl, trivial⟩ rfl ⟨rfl, rfl, rfl, rfl, rfl, rfl, rfl, rfl, rfl, rfl, rfl, rfl, rfl, rfl, rfl, rfl, rfl, rfl, rfl, rfl, rfl, rfl, rfl, rfl, rfl, trivial⟩ rfl ⟨rfl, rfl, rfl, rfl, rfl, rfl, rfl, rfl, rfl, rfl, rfl, rfl, rfl, rfl, rfl, rfl, rfl, rfl, rfl, rfl, rfl, rfl, rfl, rfl, rfl, trivial⟩ rfl rfl (Nat.le_of_ble_eq_true rfl) (Nat.zero_le _) (Nat.zero_le _) dX6_log_19 ?_
    exact x_iret C rfl dX6_log_22 rfl rfl

def f_X6_logged (x : Sy) : Int32 := (x 9) 1 0
theorem hd_X6_logged : yX6_logged.cls ≠ "java/lang/invoke/MethodHandle" ∧ yX6_logged.cls ≠ "java/lang/invoke/VarHandle" ∧ (parseMethodDescriptor yX6_logged.desc).map (fun d => d.parameters.length) = some 0 := by decide +kernel
set_option maxHeartbeats 4000000 in
set_option maxRecDepth 100000 in
theorem c_X6_logged (l : Launch) (D : va_G) (cI cZ cO : ClassId) (q : Nat → Nat) (x : Sy)  : CTi l D (T3 cI cZ cO) yX6_logged (Cond.code yX6_logged cX6_logged 1 (some .int) :: WA) ({ frames := 0, cells := 0, slots := 0, locals := 0 } : Room) [.ref (q 0)] (wLG cI cZ cO q x) ((f_X6_logged x)) (wLG cI cZ cO q x) := by
  refine ct_i (K := fun z => z) (t := f_X6_logged x) (rf := fun o => o) (wf := fun o => wLG cI cZ cO q x) (own := RX6) (nm := "logged") (L0 := [(0, .ref (q 0))]) (plainFor_of_name (by decide +kernel)) rfl rfl (Nat.le_of_ble_eq_true rfl) rfl ?_
  intro p e s m args below meth c A C
  unfold f_X6_logged
  refine x_aload_n C dX6_logged_0 0 rfl ?_
  refine x_get (v := .ref (q 23)) C hwsX60 3 mw_228 0 rfl rfl (by decide) rfl rfl dX6_logged_1 ?_
  refine x_get (v := .int ((x 9) 1 0)) C hwsX10 1 mw_318 23 rfl rfl (by decide) rfl rfl dX6_logged_4 ?_
  exact x_iret C rfl dX6_logged_7 rfl rfl

def f_X6_bound (x : Sy) : Int32 := (80 + (2 * (f_X2_greatestLength (x 1) 0))) + (f_X2_greatestLength (x 1) 3)
theorem hd_X6_bound : yX6_bound.cls ≠ "java/lang/invoke/MethodHandle" ∧ yX6_bound.cls ≠ "java/lang/invoke/VarHandle" ∧ (parseMethodDescriptor yX6_bound.desc).map (fun d => d.parameters.length) = some 0 := by decide +kernel
set_option maxHeartbeats 4000000 in
set_option maxRecDepth 100000 in
theorem c_X6_bound (l : Launch) (D : va_G) (cI cZ cO : ClassId) (q : Nat → Nat) (x : Sy)  : CTi l D (T3 cI cZ cO) yX6_bound (Cond.code yX6_bound cX6_bound 1 (some .int) :: WA) ({ frames := 2, cells := 0, slots := 0, locals := 42 } : Room) [.ref (q 0)] (wLG cI cZ cO q x) ((f_X6_bound x)) (wLG cI cZ cO q x) := by
  refine ct_i (K := fun z => z) (t := f_X6_bound x) (rf := fun o => o) (wf := fun o => wLG cI cZ cO q x) (own := RX6) (nm := "bound") (L0 := [(0, .ref (q 0))]) (plainFor_of_name (by decide +kernel)) rfl rfl (Nat.le_of_ble_eq_true rfl) rfl ?_
  intro p e s m args below meth c A C
  unfold f_X6_bound
  refine x_bipush C 80 dX6_bound_0 (by decide) ?_
  refine x_iconst C 2 dX6_bound_2 (by decide) ?_
  refine x_aload_n C dX6_bound_3 0 rfl ?_
  refine x_get (v := .ref (q 2)) C hwsX60 0 mw_219 0 rfl rfl (by decide) rfl rfl dX6_bound_4 ?_
  refine x_iconst C 0 dX6_bound_7 (by decide) ?_
  refine x_cVi (q0 := 2) (As := [.int 0]) (ws' := wLG cI cZ cO q x) C mw_320 mw_321 mw_322 mw_171 mw_172 hd_X2_greatestLength rfl rfl ⟨Nat.le_of_ble_eq_true rfl, Nat.le_of_ble_eq_true rfl⟩ rfl rfl rfl (c_X2_greatestLength l D cI cZ cO (q 2) (q 3) (q 4) (q 5) (q 6) (q 7) (x 1) 0 (by omega)) [2, 3, 4, 5, 6, 7] [.inl 0, .inl 1, .inr 0, .inr 1, .inr 2, .inr 3, .inr 4, .inr 5, .inl 8, .inl 9, .inl 10, .inl 11, .inl 12, .inl 13, .inl 14, .inl 15, .inl 16, .inl 17, .inl 18, .inl 19, .inl 20, .inl 21, .inl 22, .inl 23, .inl 24] ⟨rfl, rfl, rfl, rfl, rfl, rfl, trivial⟩ rfl ⟨rfl, rfl, rfl, rfl, rfl, rfl, rfl, rfl, rfl, rfl, rfl, rfl, rfl, rfl, rfl, rfl, rfl, rfl, rfl, rfl, rfl, rfl, rfl, rfl, rfl, trivial⟩ rfl ⟨rfl, rfl, rfl, rfl, rfl, rfl, rfl, rfl, rfl, rfl, rfl, rfl, rfl, rfl, rfl, rfl, rfl, rfl, rfl, rfl, rfl, rfl, rfl, rfl, rfl, trivial⟩ rfl rfl (Nat.le_of_ble_eq_true rfl) (Nat.zero_le _) (Nat.zero_le _) dX6_bound_8 ?_
  refine x_imul C dX6_bound_11 ?_
  refine x_iadd C dX6_bound_12 ?_
  refine x_aload_n C dX6_bound_13 0 rfl ?_
  refine x_get (v := .ref (q 2)) C hwsX60 0 mw_219 0 rfl rfl (by decide) rfl rfl dX6_bound_14 ?_
  refine x_iconst C 3 dX6_bound_17 (by decide) ?_
  refine x_cVi (q0 := 2) (As := [.int 3]) (ws' := wLG cI cZ cO q x) C mw_320 mw_321 mw_322 mw_171 mw_172 hd_X2_greatestLength rfl rfl ⟨Nat.le_of_ble_eq_true rfl, Nat.le_of_ble_eq_true rfl⟩ rfl rfl rfl (c_X2_greatestLength l D cI cZ cO (q 2) (q 3) (q 4) (q 5) (q 6) (q 7) (x 1) 3 (by omega)) [2, 3, 4, 5, 6, 7] [.inl 0, .inl 1, .inr 0, .inr 1, .inr 2, .inr 3, .inr 4, .inr 5, .inl 8, .inl 9, .inl 10, .inl 11, .inl 12, .inl 13, .inl 14, .inl 15, .inl 16, .inl 17, .inl 18, .inl 19, .inl 20, .inl 21, .inl 22, .inl 23, .inl 24] ⟨rfl, rfl, rfl, rfl, rfl, rfl, trivial⟩ rfl ⟨rfl, rfl, rfl, rfl, rfl, rfl, rfl, rfl, rfl, rfl, rfl, rfl, rfl, rfl, rfl, rfl, rfl, rfl, rfl, rfl, rfl, rfl, rfl, rfl, rfl, trivial⟩ rfl ⟨rfl, rfl, rfl, rfl, rfl, rfl, rfl, rfl, rfl, rfl, rfl, rfl, rfl, rfl, rfl, rfl, rfl, rfl, rfl, rfl, rfl, rfl, rfl, rfl, rfl, trivial⟩ rfl rfl (Nat.le_of_ble_eq_true rfl) (Nat.zero_le _) (Nat.zero_le _) dX6_bound_18 ?_
  refine x_iadd C dX6_bound_21 ?_
  exact x_iret C rfl dX6_bound_22 rfl rfl

def f_X6_safe (x : Sy) : Bool := if ((x 1) 10 0) = 0 then (if ((x 0) 6 0) = 0 then true else false) else false
theorem hd_X6_safe : yX6_safe.cls ≠ "java/lang/invoke/MethodHandle" ∧ yX6_safe.cls ≠ "java/lang/invoke/VarHandle" ∧ (parseMethodDescriptor yX6_safe.desc).map (fun d => d.parameters.length) = some 0 := by decide +kernel
set_option maxHeartbeats 4000000 in
set_option maxRecDepth 100000 in
theorem c_X6_safe (l : Launch) (D : va_G) (cI cZ cO : ClassId) (q : Nat → Nat) (x : Sy)  : CTi l D (T3 cI cZ cO) yX6_safe (Cond.code yX6_safe cX6_safe 1 (some .boolean) :: WA) ({ frames := 0, cells := 0, slots := 0, locals := 0 } : Room) [.ref (q 0)] (wLG cI cZ cO q x) (b2i (f_X6_safe x)) (wLG cI cZ cO q x) := by
  refine ct_i (K := fun z => z) (t := f_X6_safe x) (rf := fun o => b2i o) (wf := fun o => wLG cI cZ cO q x) (own := RX6) (nm := "safe") (L0 := [(0, .ref (q 0))]) (plainFor_of_name (by decide +kernel)) rfl rfl (Nat.le_of_ble_eq_true rfl) rfl ?_
  intro p e s m args below meth c A C
  unfold f_X6_safe
  refine x_aload_n C dX6_safe_0 0 rfl ?_
  refine x_get (v := .ref (q 2)) C hwsX60 0 mw_219 0 rfl rfl (by decide) rfl rfl dX6_safe_1 ?_
  refine x_get (v := .int ((x 1) 10 0)) C hwsX20 10 mw_300 2 rfl rfl (by decide) rfl rfl dX6_safe_4 ?_
  refine x_if_ne C 21 dX6_safe_7 (by decide) (fun c1 => ?_) (fun c1 => ?_)
  · refine x_aload_n C dX6_safe_10 0 rfl ?_
    refine x_get (v := .int ((x 0) 6 0)) C hwsX60 6 mw_231 0 rfl rfl (by decide) rfl rfl dX6_safe_11 ?_
    refine x_if_ne C 21 dX6_safe_14 (by decide) (fun c2 => ?_) (fun c2 => ?_)
    · refine x_iconst C 1 dX6_safe_17 (by decide) ?_
      refine x_goto C 22 dX6_safe_18 (by decide) ?_
      exact x_zret C rfl (by decide) dX6_safe_22 rfl rfl
    · refine x_iconst C 0 dX6_safe_21 (by decide) ?_
      exact x_zret C rfl (by decide) dX6_safe_22 rfl rfl
  · refine x_iconst C 0 dX6_safe_21 (by decide) ?_
    exact x_zret C rfl (by decide) dX6_safe_22 rfl rfl
end
