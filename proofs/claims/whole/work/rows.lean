section
-- ===== PART A: goes FIRST, ahead of the names: the tables' words, and 'selects' of the private methods out of them =====
/-- a private method of a class that the tables say can be made, by its rows of tables_1 -/
def lw_okq (q : MethodName × Nat) : Prop := (q.1.cls ≠ "java/lang/invoke/MethodHandle" ∧ q.1.cls ≠ "java/lang/invoke/VarHandle") ∧ Cond.instantiable q.1.cls q.2 ∈ tables_1 ∧ Cond.privateMethod q.1 ∈ tables_1 ∧ Cond.instanceMethod q.1 ∈ tables_1
theorem lw_p0 : lw_okq (⟨"SandKernel", "isOpen", "(I)Z"⟩, 5) := ⟨⟨by decide +kernel, by decide +kernel⟩, List.mem_of_getElem? (i := 13) (by decide +kernel), List.mem_of_getElem? (i := 176) (by decide +kernel), List.mem_of_getElem? (i := 177) (by decide +kernel)⟩
theorem lw_p1 : lw_okq (⟨"SandKernel$Host", "clear", "(I)V"⟩, 6) := ⟨⟨by decide +kernel, by decide +kernel⟩, List.mem_of_getElem? (i := 21) (by decide +kernel), List.mem_of_getElem? (i := 192) (by decide +kernel), List.mem_of_getElem? (i := 193) (by decide +kernel)⟩
theorem lw_p2 : lw_okq (⟨"SandKernel", "isAlive", "(I)Z"⟩, 5) := ⟨⟨by decide +kernel, by decide +kernel⟩, List.mem_of_getElem? (i := 13) (by decide +kernel), List.mem_of_getElem? (i := 222) (by decide +kernel), List.mem_of_getElem? (i := 223) (by decide +kernel)⟩
theorem lw_p3 : lw_okq (⟨"SandKernel", "unusedFrom", "(I)I"⟩, 5) := ⟨⟨by decide +kernel, by decide +kernel⟩, List.mem_of_getElem? (i := 13) (by decide +kernel), List.mem_of_getElem? (i := 234) (by decide +kernel), List.mem_of_getElem? (i := 235) (by decide +kernel)⟩
theorem lw_p4 : lw_okq (⟨"SandKernel", "readyFile", "(II)Z"⟩, 5) := ⟨⟨by decide +kernel, by decide +kernel⟩, List.mem_of_getElem? (i := 13) (by decide +kernel), List.mem_of_getElem? (i := 238) (by decide +kernel), List.mem_of_getElem? (i := 239) (by decide +kernel)⟩
theorem lw_p5 : lw_okq (⟨"SandKernel$Host", "succeeds", "(III)Z"⟩, 6) := ⟨⟨by decide +kernel, by decide +kernel⟩, List.mem_of_getElem? (i := 21) (by decide +kernel), List.mem_of_getElem? (i := 246) (by decide +kernel), List.mem_of_getElem? (i := 247) (by decide +kernel)⟩
theorem lw_p6 : lw_okq (⟨"SandKernel", "openingOf", "(II)LSandKernel$Opening;"⟩, 5) := ⟨⟨by decide +kernel, by decide +kernel⟩, List.mem_of_getElem? (i := 13) (by decide +kernel), List.mem_of_getElem? (i := 302) (by decide +kernel), List.mem_of_getElem? (i := 303) (by decide +kernel)⟩
theorem lw_p7 : lw_okq (⟨"SandKernel", "whyNoOpening", "(II)I"⟩, 5) := ⟨⟨by decide +kernel, by decide +kernel⟩, List.mem_of_getElem? (i := 13) (by decide +kernel), List.mem_of_getElem? (i := 306) (by decide +kernel), List.mem_of_getElem? (i := 307) (by decide +kernel)⟩
theorem lw_p8 : lw_okq (⟨"SandKernel", "readFile", "(LSandKernel$Opening;)I"⟩, 5) := ⟨⟨by decide +kernel, by decide +kernel⟩, List.mem_of_getElem? (i := 13) (by decide +kernel), List.mem_of_getElem? (i := 314) (by decide +kernel), List.mem_of_getElem? (i := 315) (by decide +kernel)⟩
theorem lw_p9 : lw_okq (⟨"SandKernel$Cache", "find", "(II)I"⟩, 4) := ⟨⟨by decide +kernel, by decide +kernel⟩, List.mem_of_getElem? (i := 48) (by decide +kernel), List.mem_of_getElem? (i := 326) (by decide +kernel), List.mem_of_getElem? (i := 327) (by decide +kernel)⟩
theorem lw_p10 : lw_okq (⟨"SandKernel$Cache", "makeRoom", "()Z"⟩, 4) := ⟨⟨by decide +kernel, by decide +kernel⟩, List.mem_of_getElem? (i := 48) (by decide +kernel), List.mem_of_getElem? (i := 334) (by decide +kernel), List.mem_of_getElem? (i := 335) (by decide +kernel)⟩
theorem lw_p11 : lw_okq (⟨"SandKernel$Cache", "writeOut", "(LSandKernel$Block;)Z"⟩, 4) := ⟨⟨by decide +kernel, by decide +kernel⟩, List.mem_of_getElem? (i := 48) (by decide +kernel), List.mem_of_getElem? (i := 338) (by decide +kernel), List.mem_of_getElem? (i := 339) (by decide +kernel)⟩
theorem lw_p12 : lw_okq (⟨"SandKernel$Cache", "bringIn", "(II)Z"⟩, 4) := ⟨⟨by decide +kernel, by decide +kernel⟩, List.mem_of_getElem? (i := 48) (by decide +kernel), List.mem_of_getElem? (i := 352) (by decide +kernel), List.mem_of_getElem? (i := 353) (by decide +kernel)⟩
theorem lw_p13 : lw_okq (⟨"SandKernel", "writeFile", "(LSandKernel$Opening;I)I"⟩, 5) := ⟨⟨by decide +kernel, by decide +kernel⟩, List.mem_of_getElem? (i := 13) (by decide +kernel), List.mem_of_getElem? (i := 372) (by decide +kernel), List.mem_of_getElem? (i := 373) (by decide +kernel)⟩
theorem lw_p14 : lw_okq (⟨"SandKernel$Opening", "leavePipe", "(LSandKernel$Pipe;)V"⟩, 5) := ⟨⟨by decide +kernel, by decide +kernel⟩, List.mem_of_getElem? (i := 97) (by decide +kernel), List.mem_of_getElem? (i := 409) (by decide +kernel), List.mem_of_getElem? (i := 410) (by decide +kernel)⟩
theorem lw_p15 : lw_okq (⟨"SandKernel", "leastNotThere", "()I"⟩, 5) := ⟨⟨by decide +kernel, by decide +kernel⟩, List.mem_of_getElem? (i := 13) (by decide +kernel), List.mem_of_getElem? (i := 426) (by decide +kernel), List.mem_of_getElem? (i := 427) (by decide +kernel)⟩
def lw_privs_1 : List (MethodName × Nat) := [(⟨"SandKernel", "isOpen", "(I)Z"⟩, 5), (⟨"SandKernel$Host", "clear", "(I)V"⟩, 6), (⟨"SandKernel", "isAlive", "(I)Z"⟩, 5), (⟨"SandKernel", "unusedFrom", "(I)I"⟩, 5), (⟨"SandKernel", "readyFile", "(II)Z"⟩, 5), (⟨"SandKernel$Host", "succeeds", "(III)Z"⟩, 6), (⟨"SandKernel", "openingOf", "(II)LSandKernel$Opening;"⟩, 5), (⟨"SandKernel", "whyNoOpening", "(II)I"⟩, 5), (⟨"SandKernel", "readFile", "(LSandKernel$Opening;)I"⟩, 5), (⟨"SandKernel$Cache", "find", "(II)I"⟩, 4), (⟨"SandKernel$Cache", "makeRoom", "()Z"⟩, 4), (⟨"SandKernel$Cache", "writeOut", "(LSandKernel$Block;)Z"⟩, 4), (⟨"SandKernel$Cache", "bringIn", "(II)Z"⟩, 4), (⟨"SandKernel", "writeFile", "(LSandKernel$Opening;I)I"⟩, 5), (⟨"SandKernel$Opening", "leavePipe", "(LSandKernel$Pipe;)V"⟩, 5), (⟨"SandKernel", "leastNotThere", "()I"⟩, 5)]
theorem lw_r1 : ∀ q ∈ lw_privs_1, lw_okq q := List.forall_mem_cons.mpr ⟨lw_p0, List.forall_mem_cons.mpr ⟨lw_p1, List.forall_mem_cons.mpr ⟨lw_p2, List.forall_mem_cons.mpr ⟨lw_p3, List.forall_mem_cons.mpr ⟨lw_p4, List.forall_mem_cons.mpr ⟨lw_p5, List.forall_mem_cons.mpr ⟨lw_p6, List.forall_mem_cons.mpr ⟨lw_p7, List.forall_mem_cons.mpr ⟨lw_p8, List.forall_mem_cons.mpr ⟨lw_p9, List.forall_mem_cons.mpr ⟨lw_p10, List.forall_mem_cons.mpr ⟨lw_p11, List.forall_mem_cons.mpr ⟨lw_p12, List.forall_mem_cons.mpr ⟨lw_p13, List.forall_mem_cons.mpr ⟨lw_p14, List.forall_mem_cons.mpr ⟨lw_p15, fun _ h => absurd h List.not_mem_nil⟩⟩⟩⟩⟩⟩⟩⟩⟩⟩⟩⟩⟩⟩⟩⟩
theorem lw_p16 : lw_okq (⟨"SandKernel$Task", "letGoAll", "()V"⟩, 4) := ⟨⟨by decide +kernel, by decide +kernel⟩, List.mem_of_getElem? (i := 125) (by decide +kernel), List.mem_of_getElem? (i := 443) (by decide +kernel), List.mem_of_getElem? (i := 444) (by decide +kernel)⟩
theorem lw_p17 : lw_okq (⟨"SandKernel", "openingsThere", "()I"⟩, 5) := ⟨⟨by decide +kernel, by decide +kernel⟩, List.mem_of_getElem? (i := 13) (by decide +kernel), List.mem_of_getElem? (i := 514) (by decide +kernel), List.mem_of_getElem? (i := 515) (by decide +kernel)⟩
theorem lw_p18 : lw_okq (⟨"SandKernel", "tasksThere", "()I"⟩, 5) := ⟨⟨by decide +kernel, by decide +kernel⟩, List.mem_of_getElem? (i := 13) (by decide +kernel), List.mem_of_getElem? (i := 518) (by decide +kernel), List.mem_of_getElem? (i := 519) (by decide +kernel)⟩
theorem lw_p19 : lw_okq (⟨"SandKernelModel", "reborn", "()V"⟩, 23) := ⟨⟨by decide +kernel, by decide +kernel⟩, List.mem_of_getElem? (i := 530) (by decide +kernel), List.mem_of_getElem? (i := 536) (by decide +kernel), List.mem_of_getElem? (i := 537) (by decide +kernel)⟩
theorem lw_p20 : lw_okq (⟨"SandKernelModel", "openFile", "(I)Z"⟩, 23) := ⟨⟨by decide +kernel, by decide +kernel⟩, List.mem_of_getElem? (i := 530) (by decide +kernel), List.mem_of_getElem? (i := 617) (by decide +kernel), List.mem_of_getElem? (i := 618) (by decide +kernel)⟩
theorem lw_p21 : lw_okq (⟨"SandKernelModel", "used", "(I)Z"⟩, 23) := ⟨⟨by decide +kernel, by decide +kernel⟩, List.mem_of_getElem? (i := 530) (by decide +kernel), List.mem_of_getElem? (i := 621) (by decide +kernel), List.mem_of_getElem? (i := 622) (by decide +kernel)⟩
theorem lw_p22 : lw_okq (⟨"SandKernelModel", "wipeHost", "(I)V"⟩, 23) := ⟨⟨by decide +kernel, by decide +kernel⟩, List.mem_of_getElem? (i := 530) (by decide +kernel), List.mem_of_getElem? (i := 625) (by decide +kernel), List.mem_of_getElem? (i := 626) (by decide +kernel)⟩
theorem lw_p23 : lw_okq (⟨"SandKernelModel", "alive", "(I)Z"⟩, 23) := ⟨⟨by decide +kernel, by decide +kernel⟩, List.mem_of_getElem? (i := 530) (by decide +kernel), List.mem_of_getElem? (i := 641) (by decide +kernel), List.mem_of_getElem? (i := 642) (by decide +kernel)⟩
theorem lw_p24 : lw_okq (⟨"SandKernelModel", "free", "(II)I"⟩, 23) := ⟨⟨by decide +kernel, by decide +kernel⟩, List.mem_of_getElem? (i := 530) (by decide +kernel), List.mem_of_getElem? (i := 645) (by decide +kernel), List.mem_of_getElem? (i := 646) (by decide +kernel)⟩
theorem lw_p25 : lw_okq (⟨"SandKernelModel", "openings", "()I"⟩, 23) := ⟨⟨by decide +kernel, by decide +kernel⟩, List.mem_of_getElem? (i := 530) (by decide +kernel), List.mem_of_getElem? (i := 649) (by decide +kernel), List.mem_of_getElem? (i := 650) (by decide +kernel)⟩
theorem lw_p26 : lw_okq (⟨"SandKernelModel", "operate", "(III)Z"⟩, 23) := ⟨⟨by decide +kernel, by decide +kernel⟩, List.mem_of_getElem? (i := 530) (by decide +kernel), List.mem_of_getElem? (i := 653) (by decide +kernel), List.mem_of_getElem? (i := 654) (by decide +kernel)⟩
theorem lw_p27 : lw_okq (⟨"SandKernelModel", "forget", "(I)V"⟩, 23) := ⟨⟨by decide +kernel, by decide +kernel⟩, List.mem_of_getElem? (i := 530) (by decide +kernel), List.mem_of_getElem? (i := 657) (by decide +kernel), List.mem_of_getElem? (i := 658) (by decide +kernel)⟩
theorem lw_p28 : lw_okq (⟨"SandKernelModel", "newOpening", "(III)I"⟩, 23) := ⟨⟨by decide +kernel, by decide +kernel⟩, List.mem_of_getElem? (i := 530) (by decide +kernel), List.mem_of_getElem? (i := 661) (by decide +kernel), List.mem_of_getElem? (i := 662) (by decide +kernel)⟩
theorem lw_p29 : lw_okq (⟨"SandKernelModel", "hasEnd", "(II)Z"⟩, 23) := ⟨⟨by decide +kernel, by decide +kernel⟩, List.mem_of_getElem? (i := 530) (by decide +kernel), List.mem_of_getElem? (i := 669) (by decide +kernel), List.mem_of_getElem? (i := 670) (by decide +kernel)⟩
theorem lw_p30 : lw_okq (⟨"SandKernelModel", "opening", "(II)I"⟩, 23) := ⟨⟨by decide +kernel, by decide +kernel⟩, List.mem_of_getElem? (i := 530) (by decide +kernel), List.mem_of_getElem? (i := 677) (by decide +kernel), List.mem_of_getElem? (i := 678) (by decide +kernel)⟩
theorem lw_p31 : lw_okq (⟨"SandKernelModel", "get", "(II)Z"⟩, 23) := ⟨⟨by decide +kernel, by decide +kernel⟩, List.mem_of_getElem? (i := 530) (by decide +kernel), List.mem_of_getElem? (i := 681) (by decide +kernel), List.mem_of_getElem? (i := 682) (by decide +kernel)⟩
def lw_privs_2 : List (MethodName × Nat) := [(⟨"SandKernel$Task", "letGoAll", "()V"⟩, 4), (⟨"SandKernel", "openingsThere", "()I"⟩, 5), (⟨"SandKernel", "tasksThere", "()I"⟩, 5), (⟨"SandKernelModel", "reborn", "()V"⟩, 23), (⟨"SandKernelModel", "openFile", "(I)Z"⟩, 23), (⟨"SandKernelModel", "used", "(I)Z"⟩, 23), (⟨"SandKernelModel", "wipeHost", "(I)V"⟩, 23), (⟨"SandKernelModel", "alive", "(I)Z"⟩, 23), (⟨"SandKernelModel", "free", "(II)I"⟩, 23), (⟨"SandKernelModel", "openings", "()I"⟩, 23), (⟨"SandKernelModel", "operate", "(III)Z"⟩, 23), (⟨"SandKernelModel", "forget", "(I)V"⟩, 23), (⟨"SandKernelModel", "newOpening", "(III)I"⟩, 23), (⟨"SandKernelModel", "hasEnd", "(II)Z"⟩, 23), (⟨"SandKernelModel", "opening", "(II)I"⟩, 23), (⟨"SandKernelModel", "get", "(II)Z"⟩, 23)]
theorem lw_r2 : ∀ q ∈ lw_privs_2, lw_okq q := List.forall_mem_cons.mpr ⟨lw_p16, List.forall_mem_cons.mpr ⟨lw_p17, List.forall_mem_cons.mpr ⟨lw_p18, List.forall_mem_cons.mpr ⟨lw_p19, List.forall_mem_cons.mpr ⟨lw_p20, List.forall_mem_cons.mpr ⟨lw_p21, List.forall_mem_cons.mpr ⟨lw_p22, List.forall_mem_cons.mpr ⟨lw_p23, List.forall_mem_cons.mpr ⟨lw_p24, List.forall_mem_cons.mpr ⟨lw_p25, List.forall_mem_cons.mpr ⟨lw_p26, List.forall_mem_cons.mpr ⟨lw_p27, List.forall_mem_cons.mpr ⟨lw_p28, List.forall_mem_cons.mpr ⟨lw_p29, List.forall_mem_cons.mpr ⟨lw_p30, List.forall_mem_cons.mpr ⟨lw_p31, fun _ h => absurd h List.not_mem_nil⟩⟩⟩⟩⟩⟩⟩⟩⟩⟩⟩⟩⟩⟩⟩⟩
theorem lw_p32 : lw_okq (⟨"SandKernelModel", "toFront", "(I)V"⟩, 23) := ⟨⟨by decide +kernel, by decide +kernel⟩, List.mem_of_getElem? (i := 530) (by decide +kernel), List.mem_of_getElem? (i := 685) (by decide +kernel), List.mem_of_getElem? (i := 686) (by decide +kernel)⟩
theorem lw_p33 : lw_okq (⟨"SandKernelModel", "writeBack", "(I)Z"⟩, 23) := ⟨⟨by decide +kernel, by decide +kernel⟩, List.mem_of_getElem? (i := 530) (by decide +kernel), List.mem_of_getElem? (i := 689) (by decide +kernel), List.mem_of_getElem? (i := 690) (by decide +kernel)⟩
def lw_privs_3 : List (MethodName × Nat) := [(⟨"SandKernelModel", "toFront", "(I)V"⟩, 23), (⟨"SandKernelModel", "writeBack", "(I)Z"⟩, 23)]
theorem lw_r3 : ∀ q ∈ lw_privs_3, lw_okq q := List.forall_mem_cons.mpr ⟨lw_p32, List.forall_mem_cons.mpr ⟨lw_p33, fun _ h => absurd h List.not_mem_nil⟩⟩
def lw_privs : List (MethodName × Nat) := lw_privs_1 ++ (lw_privs_2 ++ (lw_privs_3))
def lw_tbl : List Cond := k2_sels lw_privs ++ tables_1
theorem lw_privs_ok : ∀ q ∈ lw_privs, lw_okq q := by
  show ∀ q ∈ lw_privs_1 ++ (lw_privs_2 ++ (lw_privs_3)), lw_okq q
  exact List.forall_mem_append.mpr ⟨lw_r1, List.forall_mem_append.mpr ⟨lw_r2, lw_r3⟩⟩
-- ===== end of PART A; then your names; then what follows =====
/-! THE CLAIM OUT OF ONE WALK OF THE LAW'S BODY. Your part is whole_start (and what it stands on); all else here is the same for every law, but numbers. -/
def R_law : String := "SandKernelLaw"
def lw_P (b : Addr) (xs : List Int32) (args : Array Value) (s : State) : Prop := args = #[.ref b] ∧ s.IntsAt b xs ∧ xs.length ≤ 2048 ∧ (Jvm.Cond.and given_1 narrow_1).before args s = true
def lw_Q (_ : Array Value) (s : State) (o : Outcome) (t : State) : Prop := o = .returned (some (.int 1)) ∧ Framed s o t [] 600000 7302250
def lw_Z (below : List Frame) (a : Array Value) (s : State) : State → Prop := fun t => ∃ o, t.status = .running ∧ Ended t below o ∧ lw_Q a s o t
/-- the law's own end, with 1 on the stack, nothing written that was there before, its room as the claim has it -/
theorem lw_ret {p : Program} {l : Launch} {e : Env} {s : State} {m : MethodId} {below : List Frame} {meth : Method} {c : Code} {b : Nat} (hx : p.tables.exec = Jvm.exec) (hb : c.code = code) (hr : meth.sig.returnType = ret) (hlocks : meth.locks = false) {pc : Nat} {H : Heap} {ls : Array Slot} (hdg : decode code pc = .ok (.ireturn, 1)) : W p l e room_1 s m #[Value.ref b] below meth c H [] 600000 7302250 (lw_Z below #[Value.ref b] s) (F0 m pc ls [.int 1]) := by
  intro T hT X
  obtain ⟨fs, hret, hrun, hended, hW, hframe⟩ := X.leave (v := some (.int 1)) (hlocks := hlocks) (fun h => by rw [hr] at h; cases h)
  have hmeth' : T.vm.method? m = some meth := X.method'
  refine ⟨T.setFrames fs, ?_, .returned (some (.int 1)), hrun, hended, rfl, ⟨_, rfl⟩, hW, hframe⟩
  jvm_step X.here [X.here.top, hx, hb, hdg, hmeth', hr, ret, narrow_b1]
  (try refine ⟨rfl, ?_⟩); (try refine ⟨rfl, ?_⟩)
  first | (intro acts; rw [hret _ acts rfl rfl rfl]) | rw [hret _ _ rfl rfl rfl]
  exact Steps.refl _
/-- what holds at the law's entry: the machine, the code, the tables' words (any of lw_tbl by 'hts w (by decide +kernel)'), the script of L ints xs at the cell b, what the Statement gives of the start (any of its parts by flat_of_before) -/
def lw_At (p : Program) (s : State) (m : MethodId) (meth : Method) (c : Code) (b L : Nat) (xs : Nat → Int32) : Prop :=
  p.tables.exec = Jvm.exec ∧ c.code = code ∧ meth.sig.returnType = ret ∧ c.maxLocals = 4 ∧ s.vm.findClass R_law = some m.cls ∧ (∀ w ∈ lw_tbl, w.before #[Value.ref b] s = true) ∧ va_X b L xs s s.heap ∧ b < s.heap.size ∧ meth.locks = false ∧ (Jvm.Cond.and given_1 narrow_1).before #[Value.ref b] s = true
end
section
/-! the types of the small machine -/
abbrev xk_V : Type := Int32 ⊕ Option Nat
abbrev xk_M : Type := Nat → Nat → Int32
abbrev xk_P : Type := Nat → Nat → Option Nat
/-- class numbers and slots; array classes; base; the script's address, cell, length, ints -/
abbrev xk_E : Type := va_G × (Nat → ClassId) × Nat × Nat × Cell × Nat × (Nat → Int32)
abbrev xk_Q : Type := Option xk_V → Nat → xk_M → xk_P → Prop
/-- a method: whether it is the law; name, code, locals, what it returns, room -/
abbrev xk_Y : Type := Bool × MethodName × ByteArray × Nat × Option FieldType × Room
def xk_N (y : xk_Y) : MethodName := y.2.1
def xk_B (y : xk_Y) : ByteArray := y.2.2.1
def xk_L (y : xk_Y) : Nat := y.2.2.2.1
def xk_ret (y : xk_Y) : Option FieldType := y.2.2.2.2.1
def xk_Rm (y : xk_Y) : Room := y.2.2.2.2.2
def xk_ad (E : xk_E) (a : Nat) : Nat := if a = 0 then E.2.2.2.1 else E.2.2.1 + a
def xk_v (E : xk_E) (v : xk_V) : Value := match v with
  | .inl x => .int x
  | .inr none => .null
  | .inr (some a) => .ref (xk_ad E a)
def xk_isN (w : Cond) : Bool := match w with
  | .fieldLinkNest .. => true
  | .methodLinkNest .. => true
  | _ => false
end
section
/-! tables of the small machine, by program -/
def R_Block : String := "SandKernel$Block"
def F_Block : u_T := fun k => match k with
  | 0 => ("SandKernel$Block", "file", "I", false)
  | 1 => ("SandKernel$Block", "number", "I", false)
  | 2 => ("SandKernel$Block", "dirty", "Z", false)
  | _ => ("SandKernel$Block", "cells", "[I", true)
def t_Block : Nat → FieldType := fun k => match k with
  | 0 => .int
  | 1 => .int
  | 2 => .boolean
  | _ => .array .int
def R_Cache : String := "SandKernel$Cache"
def F_Cache : u_T := fun k => match k with
  | 0 => ("SandKernel$Cache", "disk", "LSandKernel$Host;", true)
  | 1 => ("SandKernel$Cache", "lengths", "[I", true)
  | 2 => ("SandKernel$Cache", "blocks", "[LSandKernel$Block;", true)
  | _ => ("SandKernel$Cache", "size", "I", false)
def t_Cache : Nat → FieldType := fun k => match k with
  | 0 => .object "SandKernel$Host"
  | 1 => .array .int
  | 2 => .array (.object "SandKernel$Block")
  | _ => .int
def R_Host : String := "SandKernel$Host"
def F_Host : u_T := fun k => match k with
  | 0 => ("SandKernel$Host", "there", "[Z", true)
  | 1 => ("SandKernel$Host", "lengths", "[I", true)
  | 2 => ("SandKernel$Host", "cells", "[I", true)
  | 3 => ("SandKernel$Host", "entries", "[I", true)
  | 4 => ("SandKernel$Host", "operations", "I", false)
  | _ => ("SandKernel$Host", "leftToFail", "I", false)
def t_Host : Nat → FieldType := fun k => match k with
  | 0 => .array .boolean
  | 1 => .array .int
  | 2 => .array .int
  | 3 => .array .int
  | 4 => .int
  | _ => .int
def R_Opening : String := "SandKernel$Opening"
def F_Opening : u_T := fun k => match k with
  | 0 => ("SandKernel$Opening", "holders", "I", false)
  | 1 => ("SandKernel$Opening", "mode", "I", false)
  | 2 => ("SandKernel$Opening", "file", "I", false)
  | 3 => ("SandKernel$Opening", "position", "I", false)
  | _ => ("SandKernel$Opening", "pipe", "LSandKernel$Pipe;", false)
def t_Opening : Nat → FieldType := fun k => match k with
  | 0 => .int
  | 1 => .int
  | 2 => .int
  | 3 => .int
  | _ => .object "SandKernel$Pipe"
def R_Pipe : String := "SandKernel$Pipe"
def F_Pipe : u_T := fun k => match k with
  | 0 => ("SandKernel$Pipe", "cells", "[I", true)
  | 1 => ("SandKernel$Pipe", "oldest", "I", false)
  | 2 => ("SandKernel$Pipe", "held", "I", false)
  | 3 => ("SandKernel$Pipe", "hasReader", "Z", false)
  | _ => ("SandKernel$Pipe", "hasWriter", "Z", false)
def t_Pipe : Nat → FieldType := fun k => match k with
  | 0 => .array .int
  | 1 => .int
  | 2 => .int
  | 3 => .boolean
  | _ => .boolean
def R_Task : String := "SandKernel$Task"
def F_Task : u_T := fun k => match k with
  | 0 => ("SandKernel$Task", "state", "I", false)
  | 1 => ("SandKernel$Task", "parent", "I", false)
  | 2 => ("SandKernel$Task", "code", "I", false)
  | _ => ("SandKernel$Task", "descriptors", "[LSandKernel$Opening;", true)
def t_Task : Nat → FieldType := fun k => match k with
  | 0 => .int
  | 1 => .int
  | 2 => .int
  | _ => .array (.object "SandKernel$Opening")
def R_K : String := "SandKernel"
def F_K : u_T := fun k => match k with
  | 0 => ("SandKernel", "disk", "LSandKernel$Host;", true)
  | 1 => ("SandKernel", "cache", "LSandKernel$Cache;", true)
  | 2 => ("SandKernel", "policies", "[I", true)
  | 3 => ("SandKernel", "openings", "[LSandKernel$Opening;", true)
  | _ => ("SandKernel", "tasks", "[LSandKernel$Task;", true)
def t_K : Nat → FieldType := fun k => match k with
  | 0 => .object "SandKernel$Host"
  | 1 => .object "SandKernel$Cache"
  | 2 => .array .int
  | 3 => .array (.object "SandKernel$Opening")
  | _ => .array (.object "SandKernel$Task")
def R_M : String := "SandKernelModel"
def F_M : u_T := fun k => match k with
  | 0 => ("SandKernelModel", "there", "[Z", true)
  | 1 => ("SandKernelModel", "hostLength", "[I", true)
  | 2 => ("SandKernelModel", "hostCell", "[I", true)
  | 3 => ("SandKernelModel", "length", "[I", true)
  | 4 => ("SandKernelModel", "policy", "[I", true)
  | 5 => ("SandKernelModel", "name", "[I", true)
  | 6 => ("SandKernelModel", "dirty", "[Z", true)
  | 7 => ("SandKernelModel", "cells", "[I", true)
  | 8 => ("SandKernelModel", "cached", "I", false)
  | 9 => ("SandKernelModel", "present", "[Z", true)
  | 10 => ("SandKernelModel", "ended", "[Z", true)
  | 11 => ("SandKernelModel", "parent", "[I", true)
  | 12 => ("SandKernelModel", "code", "[I", true)
  | 13 => ("SandKernelModel", "of", "[I", true)
  | 14 => ("SandKernelModel", "kind", "[I", true)
  | 15 => ("SandKernelModel", "what", "[I", true)
  | 16 => ("SandKernelModel", "mode", "[I", true)
  | 17 => ("SandKernelModel", "position", "[I", true)
  | 18 => ("SandKernelModel", "pipeCell", "[I", true)
  | 19 => ("SandKernelModel", "pipeSize", "[I", true)
  | 20 => ("SandKernelModel", "toFail", "I", false)
  | 21 => ("SandKernelModel", "operations", "I", false)
  | _ => ("SandKernelModel", "log", "[I", true)
def t_M : Nat → FieldType := fun k => match k with
  | 0 => .array .boolean
  | 1 => .array .int
  | 2 => .array .int
  | 3 => .array .int
  | 4 => .array .int
  | 5 => .array .int
  | 6 => .array .boolean
  | 7 => .array .int
  | 8 => .int
  | 9 => .array .boolean
  | 10 => .array .boolean
  | 11 => .array .int
  | 12 => .array .int
  | 13 => .array .int
  | 14 => .array .int
  | 15 => .array .int
  | 16 => .array .int
  | 17 => .array .int
  | 18 => .array .int
  | 19 => .array .int
  | 20 => .int
  | 21 => .int
  | _ => .array .int
abbrev xk_cl : List vw_C := [(R_Block, F_Block, 4), (R_Cache, F_Cache, 4), (R_Host, F_Host, 6), (R_Opening, F_Opening, 5), (R_Pipe, F_Pipe, 5), (R_Task, F_Task, 4), (R_K, F_K, 5), (R_M, F_M, 23)]
def xk_ty (ci : Nat) : Nat → FieldType := match ci with
  | 0 => t_Block
  | 1 => t_Cache
  | 2 => t_Host
  | 3 => t_Opening
  | 4 => t_Pipe
  | 5 => t_Task
  | 6 => t_K
  | _ => t_M
def xk_rf (ci k : Nat) : Bool := match ci with
  | 0 => Nat.beq k 3
  | 1 => Nat.beq k 0 || Nat.beq k 1 || Nat.beq k 2
  | 2 => Nat.beq k 0 || Nat.beq k 1 || Nat.beq k 2 || Nat.beq k 3
  | 3 => Nat.beq k 4
  | 4 => Nat.beq k 0
  | 5 => Nat.beq k 3
  | 6 => Nat.beq k 0 || Nat.beq k 1 || Nat.beq k 2 || Nat.beq k 3 || Nat.beq k 4
  | _ => !(Nat.beq k 8 || Nat.beq k 20 || Nat.beq k 21)
def xk_aty (t : Nat) : FieldType := match t with
  | 0 => .int
  | 1 => .boolean
  | 2 => .object "SandKernel$Block"
  | 3 => .object "SandKernel$Opening"
  | _ => .object "SandKernel$Task"
def xk_ao : List String := ["SandKernel$Block", "SandKernel$Opening", "SandKernel$Task"]
/-- what the cell of a number is: an object of a class, or an array of a kind and a length -/
def xk_kd (a : Nat) : Nat ⊕ (Nat × Nat) := bif Nat.blt a 74 then (bif Nat.blt a 37 then (bif Nat.blt a 18 then (bif Nat.blt a 9 then (bif Nat.blt a 4 then (bif Nat.blt a 2 then (bif Nat.blt a 1 then (.inr (0, 0)) else (.inl 6)) else (bif Nat.blt a 3 then (.inl 2) else (.inr (1, 8)))) else (bif Nat.blt a 6 then (bif Nat.blt a 5 then (.inr (0, 8)) else (.inr (0, 256))) else (bif Nat.blt a 7 then (.inr (0, 16)) else (bif Nat.blt a 8 then (.inl 1) else (.inr (0, 8)))))) else (bif Nat.blt a 13 then (bif Nat.blt a 11 then (bif Nat.blt a 10 then (.inr (2, 5)) else (.inl 0)) else (bif Nat.blt a 12 then (.inr (0, 8)) else (.inl 0))) else (bif Nat.blt a 15 then (bif Nat.blt a 14 then (.inr (0, 8)) else (.inl 0)) else (bif Nat.blt a 16 then (.inr (0, 8)) else (bif Nat.blt a 17 then (.inl 0) else (.inr (0, 8))))))) else (bif Nat.blt a 27 then (bif Nat.blt a 22 then (bif Nat.blt a 20 then (bif Nat.blt a 19 then (.inl 0) else (.inr (0, 8))) else (bif Nat.blt a 21 then (.inr (0, 8)) else (.inr (3, 16)))) else (bif Nat.blt a 24 then (bif Nat.blt a 23 then (.inl 3) else (.inl 3)) else (bif Nat.blt a 25 then (.inl 3) else (bif Nat.blt a 26 then (.inl 3) else (.inl 3))))) else (bif Nat.blt a 32 then (bif Nat.blt a 29 then (bif Nat.blt a 28 then (.inl 3) else (.inl 3)) else (bif Nat.blt a 30 then (.inl 3) else (bif Nat.blt a 31 then (.inl 3) else (.inl 3)))) else (bif Nat.blt a 34 then (bif Nat.blt a 33 then (.inl 3) else (.inl 3)) else (bif Nat.blt a 35 then (.inl 3) else (bif Nat.blt a 36 then (.inl 3) else (.inl 3))))))) else (bif Nat.blt a 55 then (bif Nat.blt a 46 then (bif Nat.blt a 41 then (bif Nat.blt a 39 then (bif Nat.blt a 38 then (.inl 3) else (.inr (4, 7))) else (bif Nat.blt a 40 then (.inl 5) else (.inr (3, 6)))) else (bif Nat.blt a 43 then (bif Nat.blt a 42 then (.inl 5) else (.inr (3, 6))) else (bif Nat.blt a 44 then (.inl 5) else (bif Nat.blt a 45 then (.inr (3, 6)) else (.inl 5))))) else (bif Nat.blt a 50 then (bif Nat.blt a 48 then (bif Nat.blt a 47 then (.inr (3, 6)) else (.inl 5)) else (bif Nat.blt a 49 then (.inr (3, 6)) else (.inl 5))) else (bif Nat.blt a 52 then (bif Nat.blt a 51 then (.inr (3, 6)) else (.inl 5)) else (bif Nat.blt a 53 then (.inr (3, 6)) else (bif Nat.blt a 54 then (.inl 7) else (.inr (1, 8))))))) else (bif Nat.blt a 64 then (bif Nat.blt a 59 then (bif Nat.blt a 57 then (bif Nat.blt a 56 then (.inr (0, 8)) else (.inr (0, 256))) else (bif Nat.blt a 58 then (.inr (0, 8)) else (.inr (0, 8)))) else (bif Nat.blt a 61 then (bif Nat.blt a 60 then (.inr (0, 6)) else (.inr (1, 6))) else (bif Nat.blt a 62 then (.inr (0, 48)) else (bif Nat.blt a 63 then (.inr (1, 7)) else (.inr (1, 7)))))) else (bif Nat.blt a 69 then (bif Nat.blt a 66 then (bif Nat.blt a 65 then (.inr (0, 7)) else (.inr (0, 7))) else (bif Nat.blt a 67 then (.inr (0, 42)) else (bif Nat.blt a 68 then (.inr (0, 16)) else (.inr (0, 16))))) else (bif Nat.blt a 71 then (bif Nat.blt a 70 then (.inr (0, 16)) else (.inr (0, 16))) else (bif Nat.blt a 72 then (.inr (0, 64)) else (bif Nat.blt a 73 then (.inr (0, 16)) else (.inr (0, 16))))))))) else (bif Nat.beq (a % 2) 0 then .inl 4 else .inr (0, 4))
def xk_nw : List Cond := [.fieldLinkNest "SandKernel$Cache" 30 "SandKernel$Block" "file" "I" "SandKernel", .fieldLinkNest "SandKernel$Cache" 75 "SandKernel$Block" "number" "I" "SandKernel", .fieldLinkNest "SandKernel$Cache" 33 "SandKernel$Block" "dirty" "Z" "SandKernel", .fieldLinkNest "SandKernel" 246 "SandKernel$Block" "dirty" "Z" "SandKernel", .fieldLinkNest "SandKernel$Cache" 62 "SandKernel$Block" "cells" "[I" "SandKernel", .fieldLinkNest "SandKernel" 243 "SandKernel$Block" "cells" "[I" "SandKernel", .fieldLinkNest "SandKernel$Task" 30 "SandKernel$Opening" "holders" "I" "SandKernel", .fieldLinkNest "SandKernel" 230 "SandKernel$Opening" "holders" "I" "SandKernel", .fieldLinkNest "SandKernel" 135 "SandKernel$Opening" "file" "I" "SandKernel", .fieldLinkNest "SandKernel" 142 "SandKernel$Opening" "position" "I" "SandKernel", .fieldLinkNest "SandKernel" 116 "SandKernel$Opening" "pipe" "LSandKernel$Pipe;" "SandKernel", .fieldLinkNest "SandKernel" 173 "SandKernel$Task" "state" "I" "SandKernel", .fieldLinkNest "SandKernel" 170 "SandKernel$Task" "parent" "I" "SandKernel", .fieldLinkNest "SandKernel" 179 "SandKernel$Task" "code" "I" "SandKernel", .fieldLinkNest "SandKernel" 224 "SandKernel$Task" "descriptors" "[LSandKernel$Opening;" "SandKernel", .fieldLinkNest "SandKernel$Opening" 36 "SandKernel$Pipe" "hasReader" "Z" "SandKernel", .fieldLinkNest "SandKernel$Opening" 42 "SandKernel$Pipe" "hasWriter" "Z" "SandKernel", .methodLinkNest "SandKernel" 9 ⟨"SandKernel$Host", "<init>", "()V"⟩ "SandKernel", .methodLinkNest "SandKernel$Cache" 29 ⟨"SandKernel$Block", "<init>", "()V"⟩ "SandKernel", .methodLinkNest "SandKernel" 41 ⟨"SandKernel$Opening", "<init>", "()V"⟩ "SandKernel", .methodLinkNest "SandKernel" 48 ⟨"SandKernel$Task", "<init>", "()V"⟩ "SandKernel", .methodLinkNest "SandKernel" 100 ⟨"SandKernel$Pipe", "<init>", "()V"⟩ "SandKernel"]
def xk_nwi : List Nat := [95, 97, 99, 100, 102, 103, 137, 138, 141, 143, 145, 166, 168, 170, 172, 313, 315, 56, 90, 132, 160, 305]
def m_K_init : xk_Y := (false, ⟨"SandKernel", "<init>", "()V"⟩, prog_1_method_1_code, 2, none, { frames := 3, cells := 51, slots := 1000, locals := 102 })
def m_Host_init : xk_Y := (false, ⟨"SandKernel$Host", "<init>", "()V"⟩, prog_4_method_1_code, 1, none, { frames := 1, cells := 4, slots := 288, locals := 60 })
def m_Cache_init : xk_Y := (false, ⟨"SandKernel$Cache", "<init>", "(LSandKernel$Host;)V"⟩, prog_3_method_1_code, 3, none, { frames := 2, cells := 12, slots := 200, locals := 80 })
def m_Block_init : xk_Y := (false, ⟨"SandKernel$Block", "<init>", "()V"⟩, prog_2_method_1_code, 1, none, { frames := 1, cells := 1, slots := 8, locals := 60 })
def m_Arr_fill2 : xk_Y := (false, ⟨"java/util/Arrays", "fill", "([II)V"⟩, prog_12_method_103_code, 4, none, { frames := 1, cells := 0, slots := 0, locals := 21 })
def m_Opening_init : xk_Y := (false, ⟨"SandKernel$Opening", "<init>", "()V"⟩, prog_5_method_1_code, 1, none, { frames := 1, cells := 0, slots := 0, locals := 60 })
def m_Task_init : xk_Y := (false, ⟨"SandKernel$Task", "<init>", "()V"⟩, prog_7_method_1_code, 1, none, { frames := 1, cells := 1, slots := 6, locals := 60 })
def m_Task_begin : xk_Y := (false, ⟨"SandKernel$Task", "begin", "(I)V"⟩, prog_7_method_2_code, 2, none, { frames := 1, cells := 0, slots := 0, locals := 21 })
def m_K_put : xk_Y := (false, ⟨"SandKernel", "put", "(III)I"⟩, prog_1_method_2_code, 4, some .int, { frames := 5, cells := 0, slots := 0, locals := 151 })
def m_K_isBelow : xk_Y := (false, ⟨"SandKernel", "isBelow", "(II)Z"⟩, prog_1_method_22_code, 2, some .boolean, { frames := 1, cells := 0, slots := 0, locals := 21 })
def m_K_isOpen : xk_Y := (false, ⟨"SandKernel", "isOpen", "(I)Z"⟩, prog_1_method_26_code, 3, some .boolean, { frames := 2, cells := 0, slots := 0, locals := 42 })
def m_Opening_isOfFile : xk_Y := (false, ⟨"SandKernel$Opening", "isOfFile", "(I)Z"⟩, prog_5_method_5_code, 2, some .boolean, { frames := 1, cells := 0, slots := 0, locals := 21 })
def m_Cache_holdsFile : xk_Y := (false, ⟨"SandKernel$Cache", "holdsFile", "(I)Z"⟩, prog_3_method_6_code, 3, some .boolean, { frames := 1, cells := 0, slots := 0, locals := 21 })
def m_Host_place : xk_Y := (false, ⟨"SandKernel$Host", "place", "(III)V"⟩, prog_4_method_9_code, 5, none, { frames := 4, cells := 0, slots := 0, locals := 127 })
def m_Host_clear : xk_Y := (false, ⟨"SandKernel$Host", "clear", "(I)V"⟩, prog_4_method_15_code, 2, none, { frames := 3, cells := 0, slots := 0, locals := 106 })
def m_Arr_fill4 : xk_Y := (false, ⟨"java/util/Arrays", "fill", "([IIII)V"⟩, prog_12_method_104_code, 5, none, { frames := 2, cells := 0, slots := 0, locals := 82 })
def m_Arr_rangeCheck : xk_Y := (false, ⟨"java/util/Arrays", "rangeCheck", "(III)V"⟩, prog_12_method_30_code, 3, none, { frames := 1, cells := 0, slots := 0, locals := 60 })
def m_Cache_setLength : xk_Y := (false, ⟨"SandKernel$Cache", "setLength", "(II)V"⟩, prog_3_method_3_code, 3, none, { frames := 1, cells := 0, slots := 0, locals := 21 })
def m_K_policy : xk_Y := (false, ⟨"SandKernel", "policy", "(II)I"⟩, prog_1_method_3_code, 3, some .int, { frames := 2, cells := 0, slots := 0, locals := 42 })
def m_K_failing : xk_Y := (false, ⟨"SandKernel", "failing", "(I)I"⟩, prog_1_method_4_code, 2, some .int, { frames := 2, cells := 0, slots := 0, locals := 42 })
def m_Host_setToFail : xk_Y := (false, ⟨"SandKernel$Host", "setToFail", "(I)V"⟩, prog_4_method_8_code, 2, none, { frames := 1, cells := 0, slots := 0, locals := 21 })
def m_K_open : xk_Y := (false, ⟨"SandKernel", "open", "(III)I"⟩, prog_1_method_5_code, 7, some .int, { frames := 6, cells := 0, slots := 0, locals := 170 })
def m_K_isAlive : xk_Y := (false, ⟨"SandKernel", "isAlive", "(I)Z"⟩, prog_1_method_23_code, 2, some .boolean, { frames := 2, cells := 0, slots := 0, locals := 42 })
def m_Host_isThere : xk_Y := (false, ⟨"SandKernel$Host", "isThere", "(I)Z"⟩, prog_4_method_2_code, 2, some .boolean, { frames := 1, cells := 0, slots := 0, locals := 21 })
def m_Task_freeFrom : xk_Y := (false, ⟨"SandKernel$Task", "freeFrom", "(I)I"⟩, prog_7_method_6_code, 3, some .int, { frames := 1, cells := 0, slots := 0, locals := 21 })
def m_K_unusedFrom : xk_Y := (false, ⟨"SandKernel", "unusedFrom", "(I)I"⟩, prog_1_method_27_code, 3, some .int, { frames := 1, cells := 0, slots := 0, locals := 21 })
def m_K_readyFile : xk_Y := (false, ⟨"SandKernel", "readyFile", "(II)Z"⟩, prog_1_method_31_code, 3, some .boolean, { frames := 5, cells := 0, slots := 0, locals := 148 })
def m_Host_makeFile : xk_Y := (false, ⟨"SandKernel$Host", "makeFile", "(I)Z"⟩, prog_4_method_10_code, 2, some .boolean, { frames := 4, cells := 0, slots := 0, locals := 127 })
def m_Host_succeeds : xk_Y := (false, ⟨"SandKernel$Host", "succeeds", "(III)Z"⟩, prog_4_method_16_code, 6, some .boolean, { frames := 1, cells := 0, slots := 0, locals := 21 })
def m_Host_emptyFile : xk_Y := (false, ⟨"SandKernel$Host", "emptyFile", "(I)Z"⟩, prog_4_method_11_code, 2, some .boolean, { frames := 4, cells := 0, slots := 0, locals := 127 })
def m_Cache_dropFile : xk_Y := (false, ⟨"SandKernel$Cache", "dropFile", "(I)V"⟩, prog_3_method_10_code, 5, none, { frames := 1, cells := 0, slots := 0, locals := 21 })
def m_Opening_becomeFile : xk_Y := (false, ⟨"SandKernel$Opening", "becomeFile", "(II)V"⟩, prog_5_method_2_code, 3, none, { frames := 1, cells := 0, slots := 0, locals := 21 })
def m_Task_hold : xk_Y := (false, ⟨"SandKernel$Task", "hold", "(ILSandKernel$Opening;)V"⟩, prog_7_method_7_code, 3, none, { frames := 1, cells := 0, slots := 0, locals := 21 })
def m_K_pipe : xk_Y := (false, ⟨"SandKernel", "pipe", "(I)I"⟩, prog_1_method_6_code, 8, some .int, { frames := 3, cells := 2, slots := 10, locals := 80 })
def m_Pipe_init : xk_Y := (false, ⟨"SandKernel$Pipe", "<init>", "()V"⟩, prog_6_method_1_code, 1, none, { frames := 1, cells := 1, slots := 4, locals := 60 })
def m_Opening_becomePipeEnd : xk_Y := (false, ⟨"SandKernel$Opening", "becomePipeEnd", "(LSandKernel$Pipe;I)V"⟩, prog_5_method_3_code, 3, none, { frames := 1, cells := 0, slots := 0, locals := 21 })
def m_K_read : xk_Y := (false, ⟨"SandKernel", "read", "(II)I"⟩, prog_1_method_7_code, 5, some .int, { frames := 7, cells := 0, slots := 0, locals := 177 })
def m_K_openingOf : xk_Y := (false, ⟨"SandKernel", "openingOf", "(II)LSandKernel$Opening;"⟩, prog_1_method_24_code, 3, some (.object "SandKernel$Opening"), { frames := 3, cells := 0, slots := 0, locals := 63 })
def m_K_whyNoOpening : xk_Y := (false, ⟨"SandKernel", "whyNoOpening", "(II)I"⟩, prog_1_method_25_code, 3, some .int, { frames := 3, cells := 0, slots := 0, locals := 63 })
def m_Opening_may : xk_Y := (false, ⟨"SandKernel$Opening", "may", "(I)Z"⟩, prog_5_method_4_code, 2, some .boolean, { frames := 1, cells := 0, slots := 0, locals := 21 })
def m_K_readFile : xk_Y := (false, ⟨"SandKernel", "readFile", "(LSandKernel$Opening;)I"⟩, prog_1_method_32_code, 4, some .int, { frames := 6, cells := 0, slots := 0, locals := 154 })
def m_Cache_lengthOf : xk_Y := (false, ⟨"SandKernel$Cache", "lengthOf", "(I)I"⟩, prog_3_method_2_code, 2, some .int, { frames := 1, cells := 0, slots := 0, locals := 21 })
def m_Cache_getBlock : xk_Y := (false, ⟨"SandKernel$Cache", "getBlock", "(II)LSandKernel$Block;"⟩, prog_3_method_8_code, 6, some (.object "SandKernel$Block"), { frames := 5, cells := 0, slots := 0, locals := 129 })
def m_Cache_find : xk_Y := (false, ⟨"SandKernel$Cache", "find", "(II)I"⟩, prog_3_method_12_code, 4, some .int, { frames := 2, cells := 0, slots := 0, locals := 43 })
def m_Block_isOf : xk_Y := (false, ⟨"SandKernel$Block", "isOf", "(II)Z"⟩, prog_2_method_2_code, 3, some .boolean, { frames := 1, cells := 0, slots := 0, locals := 21 })
def m_Cache_makeRoom : xk_Y := (false, ⟨"SandKernel$Cache", "makeRoom", "()Z"⟩, prog_3_method_13_code, 2, some .boolean, { frames := 4, cells := 0, slots := 0, locals := 108 })
def m_Cache_writeOut : xk_Y := (false, ⟨"SandKernel$Cache", "writeOut", "(LSandKernel$Block;)Z"⟩, prog_3_method_15_code, 2, some .boolean, { frames := 3, cells := 0, slots := 0, locals := 87 })
def m_Host_writeBlock : xk_Y := (false, ⟨"SandKernel$Host", "writeBlock", "(II[II)Z"⟩, prog_4_method_14_code, 8, some .boolean, { frames := 2, cells := 0, slots := 0, locals := 60 })
def m_Cache_bringIn : xk_Y := (false, ⟨"SandKernel$Cache", "bringIn", "(II)Z"⟩, prog_3_method_14_code, 4, some .boolean, { frames := 3, cells := 0, slots := 0, locals := 84 })
def m_Host_readBlock : xk_Y := (false, ⟨"SandKernel$Host", "readBlock", "(II[I)Z"⟩, prog_4_method_13_code, 5, some .boolean, { frames := 2, cells := 0, slots := 0, locals := 60 })
def m_Pipe_takeCell : xk_Y := (false, ⟨"SandKernel$Pipe", "takeCell", "()I"⟩, prog_6_method_2_code, 2, some .int, { frames := 1, cells := 0, slots := 0, locals := 21 })
def m_K_write : xk_Y := (false, ⟨"SandKernel", "write", "(III)I"⟩, prog_1_method_8_code, 6, some .int, { frames := 7, cells := 0, slots := 0, locals := 179 })
def m_K_writeFile : xk_Y := (false, ⟨"SandKernel", "writeFile", "(LSandKernel$Opening;I)I"⟩, prog_1_method_33_code, 6, some .int, { frames := 6, cells := 0, slots := 0, locals := 154 })
def m_Pipe_addCell : xk_Y := (false, ⟨"SandKernel$Pipe", "addCell", "(I)I"⟩, prog_6_method_3_code, 2, some .int, { frames := 1, cells := 0, slots := 0, locals := 21 })
def m_K_seek : xk_Y := (false, ⟨"SandKernel", "seek", "(III)I"⟩, prog_1_method_9_code, 5, some .int, { frames := 4, cells := 0, slots := 0, locals := 85 })
def m_K_sync : xk_Y := (false, ⟨"SandKernel", "sync", "(II)I"⟩, prog_1_method_10_code, 4, some .int, { frames := 5, cells := 0, slots := 0, locals := 132 })
def m_Cache_writeFileOut : xk_Y := (false, ⟨"SandKernel$Cache", "writeFileOut", "(I)I"⟩, prog_3_method_9_code, 5, some .int, { frames := 4, cells := 0, slots := 0, locals := 108 })
def m_K_dup : xk_Y := (false, ⟨"SandKernel", "dup", "(II)I"⟩, prog_1_method_11_code, 5, some .int, { frames := 4, cells := 0, slots := 0, locals := 85 })
def m_K_close : xk_Y := (false, ⟨"SandKernel", "close", "(II)I"⟩, prog_1_method_12_code, 3, some .int, { frames := 5, cells := 0, slots := 0, locals := 105 })
def m_Task_letGo : xk_Y := (false, ⟨"SandKernel$Task", "letGo", "(I)V"⟩, prog_7_method_8_code, 3, none, { frames := 4, cells := 0, slots := 0, locals := 83 })
def m_Opening_loseHolder : xk_Y := (false, ⟨"SandKernel$Opening", "loseHolder", "()V"⟩, prog_5_method_6_code, 1, none, { frames := 3, cells := 0, slots := 0, locals := 63 })
def m_Opening_leavePipe : xk_Y := (false, ⟨"SandKernel$Opening", "leavePipe", "(LSandKernel$Pipe;)V"⟩, prog_5_method_7_code, 2, none, { frames := 2, cells := 0, slots := 0, locals := 42 })
def m_K_unlink : xk_Y := (false, ⟨"SandKernel", "unlink", "(II)I"⟩, prog_1_method_13_code, 3, some .int, { frames := 3, cells := 0, slots := 0, locals := 67 })
def m_Host_removeFile : xk_Y := (false, ⟨"SandKernel$Host", "removeFile", "(I)Z"⟩, prog_4_method_12_code, 2, some .boolean, { frames := 2, cells := 0, slots := 0, locals := 46 })
def m_K_fork : xk_Y := (false, ⟨"SandKernel", "fork", "(I)I"⟩, prog_1_method_14_code, 3, some .int, { frames := 3, cells := 0, slots := 0, locals := 66 })
def m_K_leastNotThere : xk_Y := (false, ⟨"SandKernel", "leastNotThere", "()I"⟩, prog_1_method_29_code, 2, some .int, { frames := 1, cells := 0, slots := 0, locals := 21 })
def m_Task_shareAllOf : xk_Y := (false, ⟨"SandKernel$Task", "shareAllOf", "(LSandKernel$Task;)V"⟩, prog_7_method_9_code, 4, none, { frames := 2, cells := 0, slots := 0, locals := 43 })
def m_K_exit : xk_Y := (false, ⟨"SandKernel", "exit", "(II)I"⟩, prog_1_method_15_code, 4, some .int, { frames := 7, cells := 0, slots := 0, locals := 147 })
def m_Task_finish : xk_Y := (false, ⟨"SandKernel$Task", "finish", "(I)V"⟩, prog_7_method_3_code, 2, none, { frames := 6, cells := 0, slots := 0, locals := 126 })
def m_Task_letGoAll : xk_Y := (false, ⟨"SandKernel$Task", "letGoAll", "()V"⟩, prog_7_method_10_code, 2, none, { frames := 5, cells := 0, slots := 0, locals := 105 })
def m_Task_isChildOf : xk_Y := (false, ⟨"SandKernel$Task", "isChildOf", "(I)Z"⟩, prog_7_method_5_code, 2, some .boolean, { frames := 1, cells := 0, slots := 0, locals := 21 })
def m_K_wait : xk_Y := (false, ⟨"SandKernel", "wait", "(I)I"⟩, prog_1_method_16_code, 5, some .int, { frames := 7, cells := 0, slots := 0, locals := 146 })
def m_Task_vanish : xk_Y := (false, ⟨"SandKernel$Task", "vanish", "()V"⟩, prog_7_method_4_code, 1, none, { frames := 6, cells := 0, slots := 0, locals := 126 })
def m_K_crash : xk_Y := (false, ⟨"SandKernel", "crash", "()I"⟩, prog_1_method_17_code, 2, some .int, { frames := 7, cells := 0, slots := 0, locals := 146 })
def m_Cache_startAnew : xk_Y := (false, ⟨"SandKernel$Cache", "startAnew", "()V"⟩, prog_3_method_11_code, 2, none, { frames := 2, cells := 0, slots := 0, locals := 42 })
def m_Host_lengthOf : xk_Y := (false, ⟨"SandKernel$Host", "lengthOf", "(I)I"⟩, prog_4_method_3_code, 2, some .int, { frames := 1, cells := 0, slots := 0, locals := 21 })
def m_K_host : xk_Y := (false, ⟨"SandKernel", "host", "(II)I"⟩, prog_1_method_18_code, 3, some .int, { frames := 2, cells := 0, slots := 0, locals := 43 })
def m_Host_cellAt : xk_Y := (false, ⟨"SandKernel$Host", "cellAt", "(II)I"⟩, prog_4_method_4_code, 3, some .int, { frames := 1, cells := 0, slots := 0, locals := 21 })
def m_K_log : xk_Y := (false, ⟨"SandKernel", "log", "(I)I"⟩, prog_1_method_19_code, 2, some .int, { frames := 2, cells := 0, slots := 0, locals := 60 })
def m_Host_operations : xk_Y := (false, ⟨"SandKernel$Host", "operations", "()I"⟩, prog_4_method_5_code, 1, some .int, { frames := 1, cells := 0, slots := 0, locals := 21 })
def m_Host_entryAt : xk_Y := (false, ⟨"SandKernel$Host", "entryAt", "(I)I"⟩, prog_4_method_6_code, 2, some .int, { frames := 1, cells := 0, slots := 0, locals := 21 })
def m_K_cached : xk_Y := (false, ⟨"SandKernel", "cached", "(I)I"⟩, prog_1_method_20_code, 2, some .int, { frames := 2, cells := 0, slots := 0, locals := 42 })
def m_Cache_size : xk_Y := (false, ⟨"SandKernel$Cache", "size", "()I"⟩, prog_3_method_4_code, 1, some .int, { frames := 1, cells := 0, slots := 0, locals := 21 })
def m_Cache_blockAt : xk_Y := (false, ⟨"SandKernel$Cache", "blockAt", "(I)LSandKernel$Block;"⟩, prog_3_method_5_code, 2, some (.object "SandKernel$Block"), { frames := 1, cells := 0, slots := 0, locals := 21 })
def m_Block_describe : xk_Y := (false, ⟨"SandKernel$Block", "describe", "()I"⟩, prog_2_method_3_code, 1, some .int, { frames := 1, cells := 0, slots := 0, locals := 21 })
def m_K_count : xk_Y := (false, ⟨"SandKernel", "count", "(I)I"⟩, prog_1_method_21_code, 2, some .int, { frames := 2, cells := 0, slots := 0, locals := 43 })
def m_K_openingsThere : xk_Y := (false, ⟨"SandKernel", "openingsThere", "()I"⟩, prog_1_method_28_code, 3, some .int, { frames := 1, cells := 0, slots := 0, locals := 21 })
def m_K_tasksThere : xk_Y := (false, ⟨"SandKernel", "tasksThere", "()I"⟩, prog_1_method_30_code, 3, some .int, { frames := 1, cells := 0, slots := 0, locals := 21 })
def m_Cache_dirtyBlocks : xk_Y := (false, ⟨"SandKernel$Cache", "dirtyBlocks", "()I"⟩, prog_3_method_7_code, 3, some .int, { frames := 1, cells := 0, slots := 0, locals := 21 })
def m_Host_leftToFail : xk_Y := (false, ⟨"SandKernel$Host", "leftToFail", "()I"⟩, prog_4_method_7_code, 1, some .int, { frames := 1, cells := 0, slots := 0, locals := 21 })
def m_M_init : xk_Y := (false, ⟨"SandKernelModel", "<init>", "()V"⟩, prog_9_method_1_code, 2, none, { frames := 2, cells := 20, slots := 1000, locals := 60 })
def m_M_reborn : xk_Y := (false, ⟨"SandKernelModel", "reborn", "()V"⟩, prog_9_method_2_code, 2, none, { frames := 1, cells := 0, slots := 0, locals := 21 })
def m_M_put : xk_Y := (false, ⟨"SandKernelModel", "put", "(III)I"⟩, prog_9_method_18_code, 6, some .int, { frames := 3, cells := 0, slots := 0, locals := 65 })
def m_M_in : xk_Y := (false, ⟨"SandKernelModel", "in", "(III)Z"⟩, prog_9_method_3_code, 3, some .boolean, { frames := 1, cells := 0, slots := 0, locals := 21 })
def m_M_openFile : xk_Y := (false, ⟨"SandKernelModel", "openFile", "(I)Z"⟩, prog_9_method_7_code, 3, some .boolean, { frames := 2, cells := 0, slots := 0, locals := 43 })
def m_M_used : xk_Y := (false, ⟨"SandKernelModel", "used", "(I)Z"⟩, prog_9_method_5_code, 3, some .boolean, { frames := 1, cells := 0, slots := 0, locals := 21 })
def m_M_wipeHost : xk_Y := (false, ⟨"SandKernelModel", "wipeHost", "(I)V"⟩, prog_9_method_14_code, 3, none, { frames := 1, cells := 0, slots := 0, locals := 21 })
def m_M_policy : xk_Y := (false, ⟨"SandKernelModel", "policy", "(II)I"⟩, prog_9_method_19_code, 3, some .int, { frames := 2, cells := 0, slots := 0, locals := 43 })
def m_M_failing : xk_Y := (false, ⟨"SandKernelModel", "failing", "(I)I"⟩, prog_9_method_20_code, 2, some .int, { frames := 2, cells := 0, slots := 0, locals := 43 })
def m_M_open : xk_Y := (false, ⟨"SandKernelModel", "open", "(III)I"⟩, prog_9_method_21_code, 5, some .int, { frames := 3, cells := 0, slots := 0, locals := 67 })
def m_M_alive : xk_Y := (false, ⟨"SandKernelModel", "alive", "(I)Z"⟩, prog_9_method_4_code, 2, some .boolean, { frames := 2, cells := 0, slots := 0, locals := 43 })
def m_M_free : xk_Y := (false, ⟨"SandKernelModel", "free", "(II)I"⟩, prog_9_method_9_code, 4, some .int, { frames := 1, cells := 0, slots := 0, locals := 21 })
def m_M_openings : xk_Y := (false, ⟨"SandKernelModel", "openings", "()I"⟩, prog_9_method_6_code, 3, some .int, { frames := 2, cells := 0, slots := 0, locals := 43 })
def m_M_operate : xk_Y := (false, ⟨"SandKernelModel", "operate", "(III)Z"⟩, prog_9_method_12_code, 6, some .boolean, { frames := 1, cells := 0, slots := 0, locals := 21 })
def m_M_forget : xk_Y := (false, ⟨"SandKernelModel", "forget", "(I)V"⟩, prog_9_method_17_code, 5, none, { frames := 1, cells := 0, slots := 0, locals := 21 })
def m_M_newOpening : xk_Y := (false, ⟨"SandKernelModel", "newOpening", "(III)I"⟩, prog_9_method_10_code, 5, some .int, { frames := 2, cells := 0, slots := 0, locals := 43 })
def m_M_pipe : xk_Y := (false, ⟨"SandKernelModel", "pipe", "(I)I"⟩, prog_9_method_22_code, 5, some .int, { frames := 3, cells := 0, slots := 0, locals := 67 })
def m_M_hasEnd : xk_Y := (false, ⟨"SandKernelModel", "hasEnd", "(II)Z"⟩, prog_9_method_8_code, 4, some .boolean, { frames := 2, cells := 0, slots := 0, locals := 43 })
def m_M_read : xk_Y := (false, ⟨"SandKernelModel", "read", "(II)I"⟩, prog_9_method_23_code, 7, some .int, { frames := 4, cells := 0, slots := 0, locals := 96 })
def m_M_opening : xk_Y := (false, ⟨"SandKernelModel", "opening", "(II)I"⟩, prog_9_method_11_code, 3, some .int, { frames := 3, cells := 0, slots := 0, locals := 64 })
def m_M_get : xk_Y := (false, ⟨"SandKernelModel", "get", "(II)Z"⟩, prog_9_method_16_code, 6, some .boolean, { frames := 3, cells := 0, slots := 0, locals := 71 })
def m_M_toFront : xk_Y := (false, ⟨"SandKernelModel", "toFront", "(I)V"⟩, prog_9_method_15_code, 6, none, { frames := 1, cells := 0, slots := 0, locals := 21 })
def m_M_writeBack : xk_Y := (false, ⟨"SandKernelModel", "writeBack", "(I)Z"⟩, prog_9_method_13_code, 6, some .boolean, { frames := 2, cells := 0, slots := 0, locals := 46 })
def m_M_write : xk_Y := (false, ⟨"SandKernelModel", "write", "(III)I"⟩, prog_9_method_24_code, 7, some .int, { frames := 4, cells := 0, slots := 0, locals := 96 })
def m_M_seek : xk_Y := (false, ⟨"SandKernelModel", "seek", "(III)I"⟩, prog_9_method_25_code, 5, some .int, { frames := 4, cells := 0, slots := 0, locals := 86 })
def m_M_sync : xk_Y := (false, ⟨"SandKernelModel", "sync", "(II)I"⟩, prog_9_method_26_code, 7, some .int, { frames := 4, cells := 0, slots := 0, locals := 86 })
def m_M_dup : xk_Y := (false, ⟨"SandKernelModel", "dup", "(II)I"⟩, prog_9_method_27_code, 5, some .int, { frames := 4, cells := 0, slots := 0, locals := 86 })
def m_M_close : xk_Y := (false, ⟨"SandKernelModel", "close", "(II)I"⟩, prog_9_method_28_code, 4, some .int, { frames := 4, cells := 0, slots := 0, locals := 86 })
def m_M_unlink : xk_Y := (false, ⟨"SandKernelModel", "unlink", "(II)I"⟩, prog_9_method_29_code, 3, some .int, { frames := 3, cells := 0, slots := 0, locals := 65 })
def m_M_fork : xk_Y := (false, ⟨"SandKernelModel", "fork", "(I)I"⟩, prog_9_method_30_code, 4, some .int, { frames := 3, cells := 0, slots := 0, locals := 64 })
def m_M_exit : xk_Y := (false, ⟨"SandKernelModel", "exit", "(II)I"⟩, prog_9_method_31_code, 4, some .int, { frames := 3, cells := 0, slots := 0, locals := 64 })
def m_M_wait : xk_Y := (false, ⟨"SandKernelModel", "wait", "(I)I"⟩, prog_9_method_32_code, 4, some .int, { frames := 3, cells := 0, slots := 0, locals := 64 })
def m_M_crash : xk_Y := (false, ⟨"SandKernelModel", "crash", "()I"⟩, prog_9_method_33_code, 2, some .int, { frames := 2, cells := 0, slots := 0, locals := 42 })
def m_M_host : xk_Y := (false, ⟨"SandKernelModel", "host", "(II)I"⟩, prog_9_method_34_code, 3, some .int, { frames := 2, cells := 0, slots := 0, locals := 43 })
def m_M_log : xk_Y := (false, ⟨"SandKernelModel", "log", "(I)I"⟩, prog_9_method_35_code, 2, some .int, { frames := 2, cells := 0, slots := 0, locals := 43 })
def m_M_cached : xk_Y := (false, ⟨"SandKernelModel", "cached", "(I)I"⟩, prog_9_method_36_code, 2, some .int, { frames := 1, cells := 0, slots := 0, locals := 21 })
def m_M_count : xk_Y := (false, ⟨"SandKernelModel", "count", "(I)I"⟩, prog_9_method_37_code, 5, some .int, { frames := 3, cells := 0, slots := 0, locals := 65 })
def m_law : xk_Y := (true, x, code, 4, ret, room_1)
end
section
/-! A small machine over the kit's walk W: values are ints or references by number; memory is two functions, ints and references, by cell number and place. -/
def xk_cls (y : xk_Y) : String := (xk_N y).cls
/-- the contents of a place as a value -/
def xk_f (E : xk_E) (b : Bool) (m : xk_M) (r : xk_P) (a k : Nat) : Value := if b = true then xk_v E (.inr (r a k)) else .int (m a k)
theorem xk_f_i {E : xk_E} {m : xk_M} {r : xk_P} {a k : Nat} : xk_f E false m r a k = .int (m a k) := rfl
theorem xk_f_r {E : xk_E} {m : xk_M} {r : xk_P} {a k : Nat} : xk_f E true m r a k = xk_v E (.inr (r a k)) := rfl
theorem xk_cat (E : xk_E) (v : xk_V) : (xk_v E v).category = 1 := by
  rcases v with x | _ | a <;> rfl
def xk_cell (E : xk_E) (m : xk_M) (r : xk_P) (a : Nat) (H : Heap) : Prop := match xk_kd a with
  | .inl ci => ∃ q : vw_C, xk_cl[ci]? = some q ∧ t_OB (xk_ad E a) (E.1.1 ci) q.2.2 (E.1.2 ci) H (fun k => xk_f E (xk_rf ci k) m r a k)
  | .inr tn => H[xk_ad E a]? = some (arrV (E.2.1 tn.1) tn.2 (fun j => xk_f E (decide (2 ≤ tn.1)) m r a j))
def xk_R (E : xk_E) (n : Nat) (m : xk_M) (r : xk_P) (H : Heap) : Prop :=
  1 ≤ n ∧ H.size = E.2.2.1 + n ∧ (∀ a, 1 ≤ a → a < n → xk_cell E m r a H) ∧ (H[E.2.2.2.1]? = some E.2.2.2.2.1 ∧ E.2.2.2.1 ≤ E.2.2.1) ∧ ∀ a, n ≤ a → ∀ k, m a k = 0 ∧ r a k = none
def xk_fr (E : xk_E) : Addr → Prop := fun q => E.2.2.1 < q
def xk_tys (E : xk_E) : List (ClassId × FieldType) := [(E.2.1 0, xk_aty 0), (E.2.1 1, xk_aty 1), (E.2.1 2, xk_aty 2), (E.2.1 3, xk_aty 3), (E.2.1 4, xk_aty 4)]
def xk_scr (E : xk_E) (s : State) : Prop := s.isArrayOf E.2.2.2.2.1 .int ∧ E.2.2.2.2.1.vm ≠ .unknown ∧ E.2.2.2.2.1.slots.size = E.2.2.2.2.2.1 ∧ ∀ j : Nat, j < E.2.2.2.2.2.1 → E.2.2.2.2.1.slots[j]? = some (.int (E.2.2.2.2.2.2 j))
def xk_K (E : xk_E) (s : State) : Prop := va_K E.1 xk_cl (xk_tys E) s ∧ xk_scr E s ∧ (∀ w ∈ xk_nw, va_Nw w s) ∧ ∀ C ∈ xk_ao, va_AO C s
theorem xk_nw_ok : ∀ w ∈ xk_nw, xk_isN w = true := by decide +kernel
theorem xk_K.warm {E : xk_E} {s U : State} (hW : s.WarmedH U.vm) (h : xk_K E s) : xk_K E U := by
  obtain ⟨h1, ⟨s1, s2⟩, h3, h4⟩ := h
  refine ⟨va_K.moved hW.alike h1, ⟨State.isArrayOf_alike hW.alike s1, s2⟩, fun w hw => ?_, fun C hC => va_AO.moved hW.alike (h4 C hC)⟩
  have hn := xk_nw_ok w hw
  have hv := h3 w hw
  cases w <;> first | exact va_Nw.warmF hW hv | exact va_Nw.warmM hW hv | (exfalso; revert hn; simp [xk_isN])
theorem xk_K.same {E : xk_E} {s U : State} (h : xk_K E s) (hvm : s.vm = U.vm) : xk_K E U := by
  obtain ⟨h1, ⟨s1, s2⟩, h3, h4⟩ := h
  have hA : s.vm.Alike U.vm := hvm ▸ Vm.Alike.refl s.vm
  refine ⟨va_K.moved hA h1, ⟨State.isArrayOf_alike hA s1, s2⟩, fun w hw => ?_, fun C hC => va_AO.moved hA (h4 C hC)⟩
  have hn := xk_nw_ok w hw
  have hv := h3 w hw
  cases w <;> first | exact va_Nw.same rfl hvm hv | (exfalso; revert hn; simp [xk_isN])
def xk_good (w : Cond) : Bool := (w.onTables && w.keeps) || (match w with | .arrayClass _ => true | _ => false)
def xk_kt : List Cond := lw_tbl.filter xk_good
theorem xk_in {w : Cond} (h : w ∈ lw_tbl) (hg : xk_good w = true) : w ∈ xk_kt := List.mem_filter.mpr ⟨h, hg⟩
theorem xk_kt_good : ∀ w ∈ xk_kt, (w.onTables && w.keeps) = true ∨ ∃ ty, w = .arrayClass ty := by
  intro w hw
  have h := (List.mem_filter.mp hw).2
  unfold xk_good at h
  rw [Bool.or_eq_true] at h
  rcases h with h | h
  · exact Or.inl h
  · cases w <;> first | exact Or.inr ⟨_, rfl⟩ | (exfalso; revert h; simp)
/-! the classes' words -/
theorem xi_Block : ∀ w ∈ u_ws R_Block F_Block 4, w ∈ lw_tbl := by decide +kernel
theorem xg_Block : ∀ w ∈ u_ws R_Block F_Block 4, xk_good w = true := by decide +kernel
theorem xt_Block : ∀ k, k < 4 → parseFieldDescriptor (F_Block k).2.2.1 = some (t_Block k) := by decide +kernel
theorem xn_Block : ∀ a, a < 4 → ∀ b, b < 4 → a ≠ b → (F_Block a).2.1 ≠ (F_Block b).2.1 := by decide +kernel
theorem xi_Cache : ∀ w ∈ u_ws R_Cache F_Cache 4, w ∈ lw_tbl := by decide +kernel
theorem xg_Cache : ∀ w ∈ u_ws R_Cache F_Cache 4, xk_good w = true := by decide +kernel
theorem xt_Cache : ∀ k, k < 4 → parseFieldDescriptor (F_Cache k).2.2.1 = some (t_Cache k) := by decide +kernel
theorem xn_Cache : ∀ a, a < 4 → ∀ b, b < 4 → a ≠ b → (F_Cache a).2.1 ≠ (F_Cache b).2.1 := by decide +kernel
theorem xi_Host : ∀ w ∈ u_ws R_Host F_Host 6, w ∈ lw_tbl := by decide +kernel
theorem xg_Host : ∀ w ∈ u_ws R_Host F_Host 6, xk_good w = true := by decide +kernel
theorem xt_Host : ∀ k, k < 6 → parseFieldDescriptor (F_Host k).2.2.1 = some (t_Host k) := by decide +kernel
theorem xn_Host : ∀ a, a < 6 → ∀ b, b < 6 → a ≠ b → (F_Host a).2.1 ≠ (F_Host b).2.1 := by decide +kernel
theorem xi_Opening : ∀ w ∈ u_ws R_Opening F_Opening 5, w ∈ lw_tbl := by decide +kernel
theorem xg_Opening : ∀ w ∈ u_ws R_Opening F_Opening 5, xk_good w = true := by decide +kernel
theorem xt_Opening : ∀ k, k < 5 → parseFieldDescriptor (F_Opening k).2.2.1 = some (t_Opening k) := by decide +kernel
theorem xn_Opening : ∀ a, a < 5 → ∀ b, b < 5 → a ≠ b → (F_Opening a).2.1 ≠ (F_Opening b).2.1 := by decide +kernel
theorem xi_Pipe : ∀ w ∈ u_ws R_Pipe F_Pipe 5, w ∈ lw_tbl := by decide +kernel
theorem xg_Pipe : ∀ w ∈ u_ws R_Pipe F_Pipe 5, xk_good w = true := by decide +kernel
theorem xt_Pipe : ∀ k, k < 5 → parseFieldDescriptor (F_Pipe k).2.2.1 = some (t_Pipe k) := by decide +kernel
theorem xn_Pipe : ∀ a, a < 5 → ∀ b, b < 5 → a ≠ b → (F_Pipe a).2.1 ≠ (F_Pipe b).2.1 := by decide +kernel
theorem xi_Task : ∀ w ∈ u_ws R_Task F_Task 4, w ∈ lw_tbl := by decide +kernel
theorem xg_Task : ∀ w ∈ u_ws R_Task F_Task 4, xk_good w = true := by decide +kernel
theorem xt_Task : ∀ k, k < 4 → parseFieldDescriptor (F_Task k).2.2.1 = some (t_Task k) := by decide +kernel
theorem xn_Task : ∀ a, a < 4 → ∀ b, b < 4 → a ≠ b → (F_Task a).2.1 ≠ (F_Task b).2.1 := by decide +kernel
theorem xi_K : ∀ w ∈ u_ws R_K F_K 5, w ∈ lw_tbl := by decide +kernel
theorem xg_K : ∀ w ∈ u_ws R_K F_K 5, xk_good w = true := by decide +kernel
theorem xt_K : ∀ k, k < 5 → parseFieldDescriptor (F_K k).2.2.1 = some (t_K k) := by decide +kernel
theorem xn_K : ∀ a, a < 5 → ∀ b, b < 5 → a ≠ b → (F_K a).2.1 ≠ (F_K b).2.1 := by decide +kernel
theorem xi_M : ∀ w ∈ u_ws R_M F_M 23, w ∈ lw_tbl := by decide +kernel
theorem xg_M : ∀ w ∈ u_ws R_M F_M 23, xk_good w = true := by decide +kernel
theorem xt_M : ∀ k, k < 23 → parseFieldDescriptor (F_M k).2.2.1 = some (t_M k) := by decide +kernel
theorem xn_M : ∀ a, a < 23 → ∀ b, b < 23 → a ≠ b → (F_M a).2.1 ≠ (F_M b).2.1 := by decide +kernel
theorem xk_clall : ∀ (ci : Nat) (q : vw_C), xk_cl[ci]? = some q → (∀ w ∈ u_ws q.1 q.2.1 q.2.2, w ∈ xk_kt) ∧ (∀ k, k < q.2.2 → parseFieldDescriptor (q.2.1 k).2.2.1 = some (xk_ty ci k)) ∧ ∀ a, a < q.2.2 → ∀ b, b < q.2.2 → a ≠ b → (q.2.1 a).2.1 ≠ (q.2.1 b).2.1 := by
  intro ci q h
  match ci, h with
  | 0, h => cases h; exact ⟨fun w hw => xk_in (xi_Block w hw) (xg_Block w hw), xt_Block, xn_Block⟩
  | 1, h => cases h; exact ⟨fun w hw => xk_in (xi_Cache w hw) (xg_Cache w hw), xt_Cache, xn_Cache⟩
  | 2, h => cases h; exact ⟨fun w hw => xk_in (xi_Host w hw) (xg_Host w hw), xt_Host, xn_Host⟩
  | 3, h => cases h; exact ⟨fun w hw => xk_in (xi_Opening w hw) (xg_Opening w hw), xt_Opening, xn_Opening⟩
  | 4, h => cases h; exact ⟨fun w hw => xk_in (xi_Pipe w hw) (xg_Pipe w hw), xt_Pipe, xn_Pipe⟩
  | 5, h => cases h; exact ⟨fun w hw => xk_in (xi_Task w hw) (xg_Task w hw), xt_Task, xn_Task⟩
  | 6, h => cases h; exact ⟨fun w hw => xk_in (xi_K w hw) (xg_K w hw), xt_K, xn_K⟩
  | 7, h => cases h; exact ⟨fun w hw => xk_in (xi_M w hw) (xg_M w hw), xt_M, xn_M⟩
  | k + 8, h => simp [xk_cl] at h
def xk_ws (y : xk_Y) : List Cond := .code (xk_N y) (xk_B y) (xk_L y) (xk_ret y) :: xk_kt
def xk_Lo (E : xk_E) (ls : Array Slot) (nL : Nat) (Lc : List (Option xk_V)) : Prop := ls.size = nL ∧ lv_wf ls ∧ ∀ (i : Nat) (v : xk_V), Lc[i]? = some (some v) → ls[i]? = some (.val (xk_v E v))
def xk_pick (E : xk_E) (Lc : List (Option xk_V)) (i : Nat) : Option (Nat × Value) := match Lc[i]? with
  | some (some v) => some (i, xk_v E v)
  | _ => none
def xk_ll (E : xk_E) (Lc : List (Option xk_V)) : List (Nat × Value) := (List.range Lc.length).filterMap (xk_pick E Lc)
theorem xk_Lo.has {E : xk_E} {ls : Array Slot} {nL : Nat} {Lc : List (Option xk_V)} (h : xk_Lo E ls nL Lc) : lv_has ls nL (xk_ll E Lc) := by
  refine ⟨h.1, h.2.1, fun q hq => ?_⟩
  obtain ⟨i, -, hi⟩ := List.mem_filterMap.mp hq
  unfold xk_pick at hi
  split at hi
  · next v hv => cases hi; exact h.2.2 i v hv
  · cases hi
theorem xk_Lo.store {E : xk_E} {ls' : Array Slot} {nL i : Nat} {Lc : List (Option xk_V)} {v : xk_V} (h : lv_has ls' nL ((i, xk_v E v) :: (xk_ll E Lc).filter (fun q => !(q.1 == i) && !(q.1 + 1 == i && q.2.category == 2)))) : xk_Lo E ls' nL (Lc.set i (some v)) := by
  refine ⟨h.1, h.2.1, fun j w hj => ?_⟩
  by_cases hji : j = i
  · subst hji
    rw [List.getElem?_set] at hj
    split at hj
    · split at hj
      · cases hj
        exact h.2.2 _ List.mem_cons_self
      · cases hj
    · exact absurd rfl ‹¬ j = j›
  · rw [List.getElem?_set_ne (Ne.symm hji)] at hj
    refine h.2.2 (j, xk_v E w) (List.mem_cons_of_mem _ (List.mem_filter.mpr ⟨List.mem_filterMap.mpr ⟨j, List.mem_range.mpr (List.getElem?_eq_some_iff.mp hj).1, ?_⟩, ?_⟩))
    · unfold xk_pick
      rw [hj]
    · simp [hji, xk_cat]
def xk_Qc (E : xk_E) (Q : xk_Q) : Array Value → State → Outcome → State → Prop := fun _ _ o t => ∃ (v : Option xk_V) (n : Nat) (m : xk_M) (r : xk_P), o = .returned (v.map (xk_v E)) ∧ Q v n m r ∧ xk_R E n m r t.heap
def xk_Fin (E : xk_E) (y : xk_Y) (Q : xk_Q) (below : List Frame) (args : Array Value) (s : State) : State → Prop := if y.1 = true then lw_Z below args s else MQ below (xk_Qc E Q) args s (xk_Rm y).cells (xk_Rm y).slots (xk_fr E)
theorem xk_Fin_m {E : xk_E} {y : xk_Y} {Q : xk_Q} {below : List Frame} {args : Array Value} {s : State} (h : y.1 = false) : xk_Fin E y Q below args s = MQ below (xk_Qc E Q) args s (xk_Rm y).cells (xk_Rm y).slots (xk_fr E) := if_neg (by rw [h]; decide)
theorem xk_Fin_l {E : xk_E} {y : xk_Y} {Q : xk_Q} {below : List Frame} {args : Array Value} {s : State} (h : y.1 = true) : xk_Fin E y Q below args s = lw_Z below args s := if_pos h
/-- what a frame of method y knows -/
def xk_C (E : xk_E) (y : xk_Y) (p : Program) (s : State) (mid : MethodId) (args : Array Value) (meth : Method) (c : Code) : Prop :=
  p.tables.exec = Jvm.exec ∧ c.code = xk_B y ∧ meth.sig.returnType = xk_ret y ∧ c.maxLocals = xk_L y ∧ s.vm.findClass (xk_cls y) = some mid.cls ∧ (∀ w ∈ xk_kt, w.before args s = true) ∧ meth.locks = false ∧ (y.1 = false → meth.name = (xk_N y).name) ∧ xk_K E s ∧ (y.1 = true → args = #[Value.ref E.2.2.2.1] ∧ s.heap.size = E.2.2.1 + 1)
def xk_W (E : xk_E) (y : xk_Y) (pc : Nat) (Lc : List (Option xk_V)) (st : List xk_V) (n : Nat) (m : xk_M) (r : xk_P) (ce sl : Nat) (Q : xk_Q) : Prop :=
  ∀ (p : Program) (l : Launch) (e : Env) (s : State) (mid : MethodId) (args : Array Value) (below : List Frame) (meth : Method) (c : Code) (H : Heap) (locs : List Loc) (ls : Array Slot),
    xk_C E y p s mid args meth c → xk_R E n m r H → (∀ q ∈ locs, xk_fr E q.base) → xk_Lo E ls (xk_L y) Lc →
    W p l e (xk_Rm y) s mid args below meth c H locs ce sl (xk_Fin E y Q below args s) (F0 mid pc ls (st.map (xk_v E)))
section XK
variable {E : xk_E} {y : xk_Y} {pc n ce sl : Nat} {Lc : List (Option xk_V)} {st : List xk_V} {m : xk_M} {r : xk_P} {Q : xk_Q}
theorem xk_iconst {k : Int} {v : Int32} (hd : decode (xk_B y) pc = .ok (.iconst k, 1)) (hv : Int32.ofInt k = v) (K : xk_W E y (pc + 1) Lc (.inl v :: st) n m r ce sl Q) : xk_W E y pc Lc st n m r ce sl Q :=
  fun p l e s mid args below meth c H locs ls C R hf hL => lv_iconst C.1 C.2.1 hd hv (K p l e s mid args below meth c H locs ls C R hf hL)
theorem xk_bipush {k : Int} {v : Int32} (hd : decode (xk_B y) pc = .ok (.bipush k, 2)) (hv : (Int8.ofInt k).toInt32 = v) (K : xk_W E y (pc + 2) Lc (.inl v :: st) n m r ce sl Q) : xk_W E y pc Lc st n m r ce sl Q :=
  fun p l e s mid args below meth c H locs ls C R hf hL => lv_bipush C.1 C.2.1 hd hv (K p l e s mid args below meth c H locs ls C R hf hL)
theorem xk_sipush {k : Int} {v : Int32} (hd : decode (xk_B y) pc = .ok (.sipush k, 3)) (hv : (Int16.ofInt k).toInt32 = v) (K : xk_W E y (pc + 3) Lc (.inl v :: st) n m r ce sl Q) : xk_W E y pc Lc st n m r ce sl Q :=
  fun p l e s mid args below meth c H locs ls C R hf hL => lv_sipush C.1 C.2.1 hd hv (K p l e s mid args below meth c H locs ls C R hf hL)
theorem xk_null (hd : decode (xk_B y) pc = .ok (.aconst_null, 1)) (K : xk_W E y (pc + 1) Lc (.inr none :: st) n m r ce sl Q) : xk_W E y pc Lc st n m r ce sl Q :=
  fun p l e s mid args below meth c H locs ls C R hf hL => lv_null C.1 C.2.1 hd (K p l e s mid args below meth c H locs ls C R hf hL)
theorem xk_iload_n {k : Fin 4} {x : Int32} (hd : decode (xk_B y) pc = .ok (.iload_n k, 1)) (hl : Lc[(k : Nat)]? = some (some (.inl x))) (K : xk_W E y (pc + 1) Lc (.inl x :: st) n m r ce sl Q) : xk_W E y pc Lc st n m r ce sl Q :=
  fun p l e s mid args below meth c H locs ls C R hf hL => lv_iload_n C.1 C.2.1 hd rfl (hL.2.2 _ _ hl) (K p l e s mid args below meth c H locs ls C R hf hL)
theorem xk_iload {k : Nat} {x : Int32} (hd : decode (xk_B y) pc = .ok (.iload k, 2)) (hl : Lc[k]? = some (some (.inl x))) (K : xk_W E y (pc + 2) Lc (.inl x :: st) n m r ce sl Q) : xk_W E y pc Lc st n m r ce sl Q :=
  fun p l e s mid args below meth c H locs ls C R hf hL => lv_iload C.1 C.2.1 hd (hL.2.2 _ _ hl) (K p l e s mid args below meth c H locs ls C R hf hL)
theorem xk_aload_n {k : Fin 4} {o : Option Nat} (hd : decode (xk_B y) pc = .ok (.aload_n k, 1)) (hl : Lc[(k : Nat)]? = some (some (.inr o))) (K : xk_W E y (pc + 1) Lc (.inr o :: st) n m r ce sl Q) : xk_W E y pc Lc st n m r ce sl Q :=
  fun p l e s mid args below meth c H locs ls C R hf hL => by
    have K' := K p l e s mid args below meth c H locs ls C R hf hL
    cases o with
    | none => exact lv_aload_nN C.1 C.2.1 hd rfl (hL.2.2 _ _ hl) K'
    | some a => exact lv_aload_n C.1 C.2.1 hd rfl (hL.2.2 _ _ hl) K'
theorem xk_aload {k : Nat} {o : Option Nat} (hd : decode (xk_B y) pc = .ok (.aload k, 2)) (hl : Lc[k]? = some (some (.inr o))) (K : xk_W E y (pc + 2) Lc (.inr o :: st) n m r ce sl Q) : xk_W E y pc Lc st n m r ce sl Q :=
  fun p l e s mid args below meth c H locs ls C R hf hL => by
    have K' := K p l e s mid args below meth c H locs ls C R hf hL
    cases o with
    | none => exact lv_aloadN C.1 C.2.1 hd (hL.2.2 _ _ hl) K'
    | some a => exact lv_aload C.1 C.2.1 hd (hL.2.2 _ _ hl) K'
theorem xk_istore_n {k : Fin 4} {x : Int32} (hd : decode (xk_B y) pc = .ok (.istore_n k, 1)) (hk : (k : Nat) < xk_L y) (K : xk_W E y (pc + 1) (Lc.set (k : Nat) (some (.inl x))) st n m r ce sl Q) : xk_W E y pc Lc (.inl x :: st) n m r ce sl Q :=
  fun p l e s mid args below meth c H locs ls C R hf hL => lv_istore_n C.1 C.2.1 hd rfl hL.has hk rfl (fun ls' h' => K p l e s mid args below meth c H locs ls' C R hf (xk_Lo.store (v := .inl x) h'))
theorem xk_istore {k : Nat} {x : Int32} (hd : decode (xk_B y) pc = .ok (.istore k, 2)) (hk : k < xk_L y) (K : xk_W E y (pc + 2) (Lc.set k (some (.inl x))) st n m r ce sl Q) : xk_W E y pc Lc (.inl x :: st) n m r ce sl Q :=
  fun p l e s mid args below meth c H locs ls C R hf hL => lv_istore C.1 C.2.1 hd hL.has hk rfl (fun ls' h' => K p l e s mid args below meth c H locs ls' C R hf (xk_Lo.store (v := .inl x) h'))
theorem xk_astore_n {k : Fin 4} {o : Option Nat} (hd : decode (xk_B y) pc = .ok (.astore_n k, 1)) (hk : (k : Nat) < xk_L y) (K : xk_W E y (pc + 1) (Lc.set (k : Nat) (some (.inr o))) st n m r ce sl Q) : xk_W E y pc Lc (.inr o :: st) n m r ce sl Q :=
  fun p l e s mid args below meth c H locs ls C R hf hL => by
    cases o with
    | none => exact lv_astore_nN C.1 C.2.1 hd rfl hL.has hk rfl (fun ls' h' => K p l e s mid args below meth c H locs ls' C R hf (xk_Lo.store (v := .inr none) h'))
    | some a => exact lv_astore_n C.1 C.2.1 hd rfl hL.has hk rfl (fun ls' h' => K p l e s mid args below meth c H locs ls' C R hf (xk_Lo.store (v := .inr (some a)) h'))
theorem xk_astore {k : Nat} {o : Option Nat} (hd : decode (xk_B y) pc = .ok (.astore k, 2)) (hk : k < xk_L y) (K : xk_W E y (pc + 2) (Lc.set k (some (.inr o))) st n m r ce sl Q) : xk_W E y pc Lc (.inr o :: st) n m r ce sl Q :=
  fun p l e s mid args below meth c H locs ls C R hf hL => by
    cases o with
    | none => exact lv_astoreN C.1 C.2.1 hd hL.has hk rfl (fun ls' h' => K p l e s mid args below meth c H locs ls' C R hf (xk_Lo.store (v := .inr none) h'))
    | some a => exact lv_astore C.1 C.2.1 hd hL.has hk rfl (fun ls' h' => K p l e s mid args below meth c H locs ls' C R hf (xk_Lo.store (v := .inr (some a)) h'))
theorem xk_iinc {k : Nat} {d : Int} {x v : Int32} (hd : decode (xk_B y) pc = .ok (.iinc k d, 3)) (hl : Lc[k]? = some (some (.inl x))) (hv : x + Int32.ofInt d = v) (K : xk_W E y (pc + 3) (Lc.set k (some (.inl v))) st n m r ce sl Q) : xk_W E y pc Lc st n m r ce sl Q :=
  fun p l e s mid args below meth c H locs ls C R hf hL => by
    have hk : k < xk_L y := by
      have h1 := (Array.getElem?_eq_some_iff.mp (hL.2.2 _ _ hl)).1
      rw [← hL.1]; exact h1
    have hm : (k, xk_v E (.inl x)) ∈ xk_ll E Lc := List.mem_filterMap.mpr ⟨k, List.mem_range.mpr (List.getElem?_eq_some_iff.mp hl).1, by unfold xk_pick; rw [hl]⟩
    obtain ⟨j, hj⟩ := List.getElem?_of_mem hm
    exact lv_iinc (k := j) C.1 C.2.1 hd hL.has hj hv hk rfl (fun ls' h' => K p l e s mid args below meth c H locs ls' C R hf (xk_Lo.store (v := .inl v) h'))
theorem xk_iadd {a b : Int32} (hd : decode (xk_B y) pc = .ok (.iadd, 1)) (K : xk_W E y (pc + 1) Lc (.inl (a + b) :: st) n m r ce sl Q) : xk_W E y pc Lc (.inl b :: .inl a :: st) n m r ce sl Q :=
  fun p l e s mid args below meth c H locs ls C R hf hL => lv_iadd C.1 C.2.1 hd (K p l e s mid args below meth c H locs ls C R hf hL)
theorem xk_isub {a b : Int32} (hd : decode (xk_B y) pc = .ok (.isub, 1)) (K : xk_W E y (pc + 1) Lc (.inl (a - b) :: st) n m r ce sl Q) : xk_W E y pc Lc (.inl b :: .inl a :: st) n m r ce sl Q :=
  fun p l e s mid args below meth c H locs ls C R hf hL => lv_isub C.1 C.2.1 hd (K p l e s mid args below meth c H locs ls C R hf hL)
theorem xk_imul {a b : Int32} (hd : decode (xk_B y) pc = .ok (.imul, 1)) (K : xk_W E y (pc + 1) Lc (.inl (a * b) :: st) n m r ce sl Q) : xk_W E y pc Lc (.inl b :: .inl a :: st) n m r ce sl Q :=
  fun p l e s mid args below meth c H locs ls C R hf hL => lv_imul C.1 C.2.1 hd (K p l e s mid args below meth c H locs ls C R hf hL)
theorem xk_iand {a b : Int32} (hd : decode (xk_B y) pc = .ok (.iand, 1)) (K : xk_W E y (pc + 1) Lc (.inl (a &&& b) :: st) n m r ce sl Q) : xk_W E y pc Lc (.inl b :: .inl a :: st) n m r ce sl Q :=
  fun p l e s mid args below meth c H locs ls C R hf hL => lv_iand C.1 C.2.1 hd (K p l e s mid args below meth c H locs ls C R hf hL)
theorem xk_ishr {a b : Int32} (hd : decode (xk_B y) pc = .ok (.ishr, 1)) (K : xk_W E y (pc + 1) Lc (.inl (a >>> (b &&& 31)) :: st) n m r ce sl Q) : xk_W E y pc Lc (.inl b :: .inl a :: st) n m r ce sl Q :=
  fun p l e s mid args below meth c H locs ls C R hf hL => lv_ishr C.1 C.2.1 hd (K p l e s mid args below meth c H locs ls C R hf hL)
theorem xk_idiv {a b : Int32} (hd : decode (xk_B y) pc = .ok (.idiv, 1)) (hb : ¬ b = 0) (K : xk_W E y (pc + 1) Lc (.inl (a / b) :: st) n m r ce sl Q) : xk_W E y pc Lc (.inl b :: .inl a :: st) n m r ce sl Q :=
  fun p l e s mid args below meth c H locs ls C R hf hL => lv_idiv C.1 C.2.1 hd hb (K p l e s mid args below meth c H locs ls C R hf hL)
theorem xk_irem {a b : Int32} (hd : decode (xk_B y) pc = .ok (.irem, 1)) (hb : ¬ b = 0) (K : xk_W E y (pc + 1) Lc (.inl (a - a / b * b) :: st) n m r ce sl Q) : xk_W E y pc Lc (.inl b :: .inl a :: st) n m r ce sl Q :=
  fun p l e s mid args below meth c H locs ls C R hf hL => lv_irem C.1 C.2.1 hd hb (K p l e s mid args below meth c H locs ls C R hf hL)
theorem xk_dup {v : xk_V} (hd : decode (xk_B y) pc = .ok (.dup, 1)) (K : xk_W E y (pc + 1) Lc (v :: v :: st) n m r ce sl Q) : xk_W E y pc Lc (v :: st) n m r ce sl Q :=
  fun p l e s mid args below meth c H locs ls C R hf hL => lv_dup C.1 C.2.1 hd (xk_cat E v) (K p l e s mid args below meth c H locs ls C R hf hL)
theorem xk_pop {v : xk_V} (hd : decode (xk_B y) pc = .ok (.pop, 1)) (K : xk_W E y (pc + 1) Lc st n m r ce sl Q) : xk_W E y pc Lc (v :: st) n m r ce sl Q :=
  fun p l e s mid args below meth c H locs ls C R hf hL => lv_pop C.1 C.2.1 hd (xk_cat E v) (K p l e s mid args below meth c H locs ls C R hf hL)
theorem xk_dup_x1 {v w : xk_V} (hd : decode (xk_B y) pc = .ok (.dup_x1, 1)) (K : xk_W E y (pc + 1) Lc (v :: w :: v :: st) n m r ce sl Q) : xk_W E y pc Lc (v :: w :: st) n m r ce sl Q :=
  fun p l e s mid args below meth c H locs ls C R hf hL => lv_dup_x1 C.1 C.2.1 hd (xk_cat E v) (xk_cat E w) (K p l e s mid args below meth c H locs ls C R hf hL)
theorem xk_dup2 {v w : xk_V} (hd : decode (xk_B y) pc = .ok (.dup2, 1)) (K : xk_W E y (pc + 1) Lc (v :: w :: v :: w :: st) n m r ce sl Q) : xk_W E y pc Lc (v :: w :: st) n m r ce sl Q :=
  fun p l e s mid args below meth c H locs ls C R hf hL => lv_dup2_11 C.1 C.2.1 hd (xk_cat E v) (xk_cat E w) (K p l e s mid args below meth c H locs ls C R hf hL)
theorem xk_goto {off : Int} {tgt : Nat} (hd : decode (xk_B y) pc = .ok (.goto off, 3)) (ht : (pc : Int) + off = (tgt : Int)) (K : xk_W E y tgt Lc st n m r ce sl Q) : xk_W E y pc Lc st n m r ce sl Q :=
  fun p l e s mid args below meth c H locs ls C R hf hL => lv_goto C.1 C.2.1 hd ht (K p l e s mid args below meth c H locs ls C R hf hL)
theorem xk_if_eq {x : Int32} {off : Int} {tgt : Nat} (hd : decode (xk_B y) pc = .ok (.ifCond .eq off, 3)) (ht : (pc : Int) + off = (tgt : Int)) (kt : x = 0 → xk_W E y tgt Lc st n m r ce sl Q) (kf : ¬ x = 0 → xk_W E y (pc + 3) Lc st n m r ce sl Q) : xk_W E y pc Lc (.inl x :: st) n m r ce sl Q :=
  fun p l e s mid args below meth c H locs ls C R hf hL => lv_if_eq C.1 C.2.1 hd ht (fun q => kt q p l e s mid args below meth c H locs ls C R hf hL) (fun q => kf q p l e s mid args below meth c H locs ls C R hf hL)
theorem xk_if_ne {x : Int32} {off : Int} {tgt : Nat} (hd : decode (xk_B y) pc = .ok (.ifCond .ne off, 3)) (ht : (pc : Int) + off = (tgt : Int)) (kt : ¬ x = 0 → xk_W E y tgt Lc st n m r ce sl Q) (kf : x = 0 → xk_W E y (pc + 3) Lc st n m r ce sl Q) : xk_W E y pc Lc (.inl x :: st) n m r ce sl Q :=
  fun p l e s mid args below meth c H locs ls C R hf hL => lv_if_ne C.1 C.2.1 hd ht (fun q => kt q p l e s mid args below meth c H locs ls C R hf hL) (fun q => kf q p l e s mid args below meth c H locs ls C R hf hL)
theorem xk_if_lt {x : Int32} {off : Int} {tgt : Nat} (hd : decode (xk_B y) pc = .ok (.ifCond .lt off, 3)) (ht : (pc : Int) + off = (tgt : Int)) (kt : x < 0 → xk_W E y tgt Lc st n m r ce sl Q) (kf : ¬ x < 0 → xk_W E y (pc + 3) Lc st n m r ce sl Q) : xk_W E y pc Lc (.inl x :: st) n m r ce sl Q :=
  fun p l e s mid args below meth c H locs ls C R hf hL => lv_if_lt C.1 C.2.1 hd ht (fun q => kt q p l e s mid args below meth c H locs ls C R hf hL) (fun q => kf q p l e s mid args below meth c H locs ls C R hf hL)
theorem xk_if_ge {x : Int32} {off : Int} {tgt : Nat} (hd : decode (xk_B y) pc = .ok (.ifCond .ge off, 3)) (ht : (pc : Int) + off = (tgt : Int)) (kt : 0 ≤ x → xk_W E y tgt Lc st n m r ce sl Q) (kf : ¬ 0 ≤ x → xk_W E y (pc + 3) Lc st n m r ce sl Q) : xk_W E y pc Lc (.inl x :: st) n m r ce sl Q :=
  fun p l e s mid args below meth c H locs ls C R hf hL => lv_if_ge C.1 C.2.1 hd ht (fun q => kt q p l e s mid args below meth c H locs ls C R hf hL) (fun q => kf q p l e s mid args below meth c H locs ls C R hf hL)
theorem xk_if_gt {x : Int32} {off : Int} {tgt : Nat} (hd : decode (xk_B y) pc = .ok (.ifCond .gt off, 3)) (ht : (pc : Int) + off = (tgt : Int)) (kt : 0 < x → xk_W E y tgt Lc st n m r ce sl Q) (kf : ¬ 0 < x → xk_W E y (pc + 3) Lc st n m r ce sl Q) : xk_W E y pc Lc (.inl x :: st) n m r ce sl Q :=
  fun p l e s mid args below meth c H locs ls C R hf hL => lv_if_gt C.1 C.2.1 hd ht (fun q => kt q p l e s mid args below meth c H locs ls C R hf hL) (fun q => kf q p l e s mid args below meth c H locs ls C R hf hL)
theorem xk_if_le {x : Int32} {off : Int} {tgt : Nat} (hd : decode (xk_B y) pc = .ok (.ifCond .le off, 3)) (ht : (pc : Int) + off = (tgt : Int)) (kt : x ≤ 0 → xk_W E y tgt Lc st n m r ce sl Q) (kf : ¬ x ≤ 0 → xk_W E y (pc + 3) Lc st n m r ce sl Q) : xk_W E y pc Lc (.inl x :: st) n m r ce sl Q :=
  fun p l e s mid args below meth c H locs ls C R hf hL => lv_if_le C.1 C.2.1 hd ht (fun q => kt q p l e s mid args below meth c H locs ls C R hf hL) (fun q => kf q p l e s mid args below meth c H locs ls C R hf hL)
theorem xk_icmp_eq {x z : Int32} {off : Int} {tgt : Nat} (hd : decode (xk_B y) pc = .ok (.if_icmp .eq off, 3)) (ht : (pc : Int) + off = (tgt : Int)) (kt : x = z → xk_W E y tgt Lc st n m r ce sl Q) (kf : ¬ x = z → xk_W E y (pc + 3) Lc st n m r ce sl Q) : xk_W E y pc Lc (.inl z :: .inl x :: st) n m r ce sl Q :=
  fun p l e s mid args below meth c H locs ls C R hf hL => lv_icmp_eq C.1 C.2.1 hd ht (fun q => kt q p l e s mid args below meth c H locs ls C R hf hL) (fun q => kf q p l e s mid args below meth c H locs ls C R hf hL)
theorem xk_icmp_ne {x z : Int32} {off : Int} {tgt : Nat} (hd : decode (xk_B y) pc = .ok (.if_icmp .ne off, 3)) (ht : (pc : Int) + off = (tgt : Int)) (kt : ¬ x = z → xk_W E y tgt Lc st n m r ce sl Q) (kf : x = z → xk_W E y (pc + 3) Lc st n m r ce sl Q) : xk_W E y pc Lc (.inl z :: .inl x :: st) n m r ce sl Q :=
  fun p l e s mid args below meth c H locs ls C R hf hL => lv_icmp_ne C.1 C.2.1 hd ht (fun q => kt q p l e s mid args below meth c H locs ls C R hf hL) (fun q => kf q p l e s mid args below meth c H locs ls C R hf hL)
theorem xk_icmp_lt {x z : Int32} {off : Int} {tgt : Nat} (hd : decode (xk_B y) pc = .ok (.if_icmp .lt off, 3)) (ht : (pc : Int) + off = (tgt : Int)) (kt : x < z → xk_W E y tgt Lc st n m r ce sl Q) (kf : ¬ x < z → xk_W E y (pc + 3) Lc st n m r ce sl Q) : xk_W E y pc Lc (.inl z :: .inl x :: st) n m r ce sl Q :=
  fun p l e s mid args below meth c H locs ls C R hf hL => lv_icmp_lt C.1 C.2.1 hd ht (fun q => kt q p l e s mid args below meth c H locs ls C R hf hL) (fun q => kf q p l e s mid args below meth c H locs ls C R hf hL)
theorem xk_icmp_ge {x z : Int32} {off : Int} {tgt : Nat} (hd : decode (xk_B y) pc = .ok (.if_icmp .ge off, 3)) (ht : (pc : Int) + off = (tgt : Int)) (kt : z ≤ x → xk_W E y tgt Lc st n m r ce sl Q) (kf : ¬ z ≤ x → xk_W E y (pc + 3) Lc st n m r ce sl Q) : xk_W E y pc Lc (.inl z :: .inl x :: st) n m r ce sl Q :=
  fun p l e s mid args below meth c H locs ls C R hf hL => lv_icmp_ge C.1 C.2.1 hd ht (fun q => kt q p l e s mid args below meth c H locs ls C R hf hL) (fun q => kf q p l e s mid args below meth c H locs ls C R hf hL)
theorem xk_icmp_gt {x z : Int32} {off : Int} {tgt : Nat} (hd : decode (xk_B y) pc = .ok (.if_icmp .gt off, 3)) (ht : (pc : Int) + off = (tgt : Int)) (kt : z < x → xk_W E y tgt Lc st n m r ce sl Q) (kf : ¬ z < x → xk_W E y (pc + 3) Lc st n m r ce sl Q) : xk_W E y pc Lc (.inl z :: .inl x :: st) n m r ce sl Q :=
  fun p l e s mid args below meth c H locs ls C R hf hL => lv_icmp_gt C.1 C.2.1 hd ht (fun q => kt q p l e s mid args below meth c H locs ls C R hf hL) (fun q => kf q p l e s mid args below meth c H locs ls C R hf hL)
theorem xk_icmp_le {x z : Int32} {off : Int} {tgt : Nat} (hd : decode (xk_B y) pc = .ok (.if_icmp .le off, 3)) (ht : (pc : Int) + off = (tgt : Int)) (kt : x ≤ z → xk_W E y tgt Lc st n m r ce sl Q) (kf : ¬ x ≤ z → xk_W E y (pc + 3) Lc st n m r ce sl Q) : xk_W E y pc Lc (.inl z :: .inl x :: st) n m r ce sl Q :=
  fun p l e s mid args below meth c H locs ls C R hf hL => lv_icmp_le C.1 C.2.1 hd ht (fun q => kt q p l e s mid args below meth c H locs ls C R hf hL) (fun q => kf q p l e s mid args below meth c H locs ls C R hf hL)
theorem xk_ifnull {o : Option Nat} {off : Int} {tgt : Nat} (hd : decode (xk_B y) pc = .ok (.ifnull off, 3)) (ht : (pc : Int) + off = (tgt : Int)) (kt : o = none → xk_W E y tgt Lc st n m r ce sl Q) (kf : ∀ a, o = some a → xk_W E y (pc + 3) Lc st n m r ce sl Q) : xk_W E y pc Lc (.inr o :: st) n m r ce sl Q :=
  fun p l e s mid args below meth c H locs ls C R hf hL => by
    cases o with
    | none => exact lv_ifnullN C.1 C.2.1 hd ht (kt rfl p l e s mid args below meth c H locs ls C R hf hL)
    | some a => exact lv_ifnull C.1 C.2.1 hd (kf a rfl p l e s mid args below meth c H locs ls C R hf hL)
theorem xk_ifnonnull {o : Option Nat} {off : Int} {tgt : Nat} (hd : decode (xk_B y) pc = .ok (.ifnonnull off, 3)) (ht : (pc : Int) + off = (tgt : Int)) (kt : ∀ a, o = some a → xk_W E y tgt Lc st n m r ce sl Q) (kf : o = none → xk_W E y (pc + 3) Lc st n m r ce sl Q) : xk_W E y pc Lc (.inr o :: st) n m r ce sl Q :=
  fun p l e s mid args below meth c H locs ls C R hf hL => by
    cases o with
    | none => exact lv_ifnonnullN C.1 C.2.1 hd (kf rfl p l e s mid args below meth c H locs ls C R hf hL)
    | some a => exact lv_ifnonnull C.1 C.2.1 hd ht (kt a rfl p l e s mid args below meth c H locs ls C R hf hL)
theorem xk_tableOut {dflt lo hi : Int} {offs : Array Int} {len : Nat} {x : Int32} {tgt : Nat} (hd : decode (xk_B y) pc = .ok (.tableswitch dflt lo hi offs, len)) (h : x.toInt < lo ∨ hi < x.toInt) (ht : (pc : Int) + dflt = (tgt : Int)) (K : xk_W E y tgt Lc st n m r ce sl Q) : xk_W E y pc Lc (.inl x :: st) n m r ce sl Q :=
  fun p l e s mid args below meth c H locs ls C R hf hL => lv_tableOut C.1 C.2.1 hd h ht (K p l e s mid args below meth c H locs ls C R hf hL)
theorem xk_tableIn {dflt lo hi : Int} {offs : Array Int} {len : Nat} {x : Int32} {off : Int} {tgt : Nat} (hd : decode (xk_B y) pc = .ok (.tableswitch dflt lo hi offs, len)) (h1 : ¬ x.toInt < lo) (h2 : ¬ hi < x.toInt) (ho : offs[(x.toInt - lo).toNat]? = some off) (ht : (pc : Int) + off = (tgt : Int)) (K : xk_W E y tgt Lc st n m r ce sl Q) : xk_W E y pc Lc (.inl x :: st) n m r ce sl Q :=
  fun p l e s mid args below meth c H locs ls C R hf hL => lv_tableIn C.1 C.2.1 hd h1 h2 ho ht (K p l e s mid args below meth c H locs ls C R hf hL)
end XK
end
section
/-! the machine's heap: fields, arrays, new cells -/
def xk_up {α : Type} (f : Nat → Nat → α) (a k : Nat) (v : α) : Nat → Nat → α := fun b j => if b = a ∧ j = k then v else f b j
theorem xk_up_s {α : Type} {f : Nat → Nat → α} {a k : Nat} {v : α} : xk_up f a k v a k = v := by simp [xk_up]
theorem xk_up_a {α : Type} {f : Nat → Nat → α} {a k b j : Nat} {v : α} (h : b ≠ a) : xk_up f a k v b j = f b j := by simp [xk_up, h]
theorem xk_up_k {α : Type} {f : Nat → Nat → α} {a k b j : Nat} {v : α} (h : j ≠ k) : xk_up f a k v b j = f b j := by simp [xk_up, h]
theorem xk_ad_inj {E : xk_E} {a b : Nat} (ha : 1 ≤ a) (hb : 1 ≤ b) (h : xk_ad E a = xk_ad E b) : a = b := by
  unfold xk_ad at h
  rw [if_neg (by omega), if_neg (by omega)] at h
  omega
theorem xk_ad_fr {E : xk_E} {a : Nat} (ha : 1 ≤ a) : xk_fr E (xk_ad E a) := by
  unfold xk_ad xk_fr
  rw [if_neg (by omega)]
  omega
theorem xk_cell.kept {E : xk_E} {m m' : xk_M} {r r' : xk_P} {a : Nat} {H H' : Heap} (h : xk_cell E m r a H) (hH : H'[xk_ad E a]? = H[xk_ad E a]?) (hm : m' a = m a) (hr : r' a = r a) : xk_cell E m' r' a H' := by
  have hf : ∀ b k, xk_f E b m' r' a k = xk_f E b m r a k := fun b k => by unfold xk_f; rw [hm, hr]
  unfold xk_cell at h ⊢
  split at h
  · next ci hk =>
    obtain ⟨q, h1, h2⟩ := h
    exact ⟨q, h1, (h2.kept hH).to (fun k _ => (hf _ k).symm)⟩
  · next tn hk =>
    rw [hH, h]
    congr 2
    funext j
    exact (hf _ j).symm
theorem xk_R.upd {E : xk_E} {n a : Nat} {m m' : xk_M} {r r' : xk_P} {H H' : Heap} (h : xk_R E n m r H) (ha : 1 ≤ a) (hn : a < n) (hs : H'.size = H.size) (ho : ∀ q, q ≠ xk_ad E a → H'[q]? = H[q]?) (hm : ∀ b, b ≠ a → m' b = m b) (hr : ∀ b, b ≠ a → r' b = r b) (hc : xk_cell E m' r' a H') : xk_R E n m' r' H' := by
  obtain ⟨h1, h2, h3, ⟨h4, h5⟩, h6⟩ := h
  refine ⟨h1, hs.trans h2, fun b hb hbn => ?_, ⟨?_, h5⟩, fun b hb k => ?_⟩
  · by_cases hba : b = a
    · subst hba; exact hc
    · exact (h3 b hb hbn).kept (ho _ (fun e => hba (xk_ad_inj hb ha e))) (hm b hba) (hr b hba)
  · rw [ho _ ?_]
    · exact h4
    · have := xk_ad_fr (E := E) ha
      unfold xk_fr at this
      omega
  · rw [hm b (by omega), hr b (by omega)]
    exact h6 b hb k
theorem xk_loc {E : xk_E} {locs : List Loc} {a k : Nat} (h : ∀ q ∈ locs, xk_fr E q.base) (ha : 1 ≤ a) : ∀ q ∈ locs ++ [⟨xk_ad E a, k⟩], xk_fr E q.base := t_lc h (xk_ad_fr ha)
/-- where a field of class number ci, place k, is linked from 'own' at 'idx' -/
def xk_FL (own : String) (idx ci k : Nat) : Prop := ∃ q : vw_C, xk_cl[ci]? = some q ∧ k < q.2.2 ∧ (Cond.fieldLink own idx (q.2.1 k).1 (q.2.1 k).2.1 (q.2.1 k).2.2.1 ∈ xk_kt ∨ ∃ host, Cond.fieldLinkNest own idx (q.2.1 k).1 (q.2.1 k).2.1 (q.2.1 k).2.2.1 host ∈ xk_nw)
section XH
variable {E : xk_E} {y : xk_Y} {pc n ce sl : Nat} {Lc : List (Option xk_V)} {st : List xk_V} {m : xk_M} {r : xk_P} {Q : xk_Q}
theorem xk_getf {idx ci k a : Nat} {v : xk_V} (hd : decode (xk_B y) pc = .ok (.getfield idx, 3)) (hl : xk_FL (xk_cls y) idx ci k) (hk : xk_kd a = .inl ci) (ha : 1 ≤ a) (hn : a < n) (hv : xk_f E (xk_rf ci k) m r a k = xk_v E v) (K : xk_W E y (pc + 3) Lc (v :: st) n m r ce sl Q) : xk_W E y pc Lc (.inr (some a) :: st) n m r ce sl Q := by
  intro p l e s mid args below meth c H locs ls C R hf hL
  have K' := K p l e s mid args below meth c H locs ls C R hf hL
  obtain ⟨q, hq, hkN, hlk⟩ := hl
  have hc := R.2.2.1 a ha hn
  unfold xk_cell at hc
  rw [hk] at hc
  obtain ⟨q', hq', cell, c1, c2, c3, c4⟩ := hc
  cases hq.symm.trans hq'
  obtain ⟨hx, hb, -, -, hown, hts, -, -, ⟨hK, -, hnw, -⟩, -⟩ := C
  obtain ⟨hS, hfc, kC, hkC, hkind⟩ := hK.1 ci q hq
  obtain ⟨cf, kf, fi, f, hi, hsl⟩ := hS k hkN
  have hst := (u_facts hfc hkC (u_lays hts (xk_clall ci q hq).1 hkN) hi).1
  have hv2 : cell.slots[f.slot]? = some (xk_v E v) := by rw [hsl, c4 k hkN]; exact congrArg some hv
  rcases hlk with hlk | ⟨host, hlk⟩
  · exact W.getf hx hb hown (hts _ hlk) hi hst c1 (by rw [c3]; exact fun h => by cases h) hv2 rfl rfl hd K'
  · exact va_Wgetf hx hb hown (va_Nw.use rfl (hnw _ hlk)) hi hst c1 (by rw [c3]; exact fun h => by cases h) hv2 rfl rfl hd K'
theorem xk_getI {idx ci k a : Nat} (hd : decode (xk_B y) pc = .ok (.getfield idx, 3)) (hl : xk_FL (xk_cls y) idx ci k) (hk : xk_kd a = .inl ci) (hr : xk_rf ci k = false) (ha : 1 ≤ a) (hn : a < n) (K : xk_W E y (pc + 3) Lc (.inl (m a k) :: st) n m r ce sl Q) : xk_W E y pc Lc (.inr (some a) :: st) n m r ce sl Q :=
  xk_getf hd hl hk ha hn (v := .inl (m a k)) (by rw [hr]; rfl) K
theorem xk_getR {idx ci k a : Nat} (hd : decode (xk_B y) pc = .ok (.getfield idx, 3)) (hl : xk_FL (xk_cls y) idx ci k) (hk : xk_kd a = .inl ci) (hr : xk_rf ci k = true) (ha : 1 ≤ a) (hn : a < n) (K : xk_W E y (pc + 3) Lc (.inr (r a k) :: st) n m r ce sl Q) : xk_W E y pc Lc (.inr (some a) :: st) n m r ce sl Q :=
  xk_getf hd hl hk ha hn (v := .inr (r a k)) (by rw [hr]; rfl) K
theorem xk_putf {idx ci k a : Nat} {v : xk_V} {m' : xk_M} {r' : xk_P} (hd : decode (xk_B y) pc = .ok (.putfield idx, 3)) (hl : xk_FL (xk_cls y) idx ci k) (hk : xk_kd a = .inl ci) (ha : 1 ≤ a) (hn : a < n)
    (hfin : ∀ q : vw_C, xk_cl[ci]? = some q → (q.2.1 k).2.2.2 = true → (xk_N y).name = "<init>" ∧ (q.2.1 k).1 = xk_cls y ∧ y.1 = false)
    (hty : narrow (xk_ty ci k) (xk_v E v) = xk_v E v ∧ fits (xk_ty ci k) (xk_v E v) = true)
    (hm : ∀ b, b ≠ a → m' b = m b) (hr : ∀ b, b ≠ a → r' b = r b) (hs : xk_f E (xk_rf ci k) m' r' a k = xk_v E v) (ho : ∀ j, j ≠ k → m' a j = m a j ∧ r' a j = r a j)
    (K : xk_W E y (pc + 3) Lc st n m' r' ce sl Q) : xk_W E y pc Lc (v :: .inr (some a) :: st) n m r ce sl Q := by
  intro p l e s mid args below meth c H locs ls C R hf hL
  have C0 := C
  obtain ⟨q, hq, hkN, hlk⟩ := hl
  have hc := R.2.2.1 a ha hn
  unfold xk_cell at hc
  rw [hk] at hc
  obtain ⟨q', hq', cell, c1, c2, c3, c4⟩ := hc
  cases hq.symm.trans hq'
  obtain ⟨hx, hb, -, -, hown, hts, -, hname, ⟨hK, -, hnw, -⟩, -⟩ := C
  obtain ⟨hin, hpt, hnm⟩ := xk_clall ci q hq
  obtain ⟨hS, hfc, kC, hkC, hkind⟩ := hK.1 ci q hq
  obtain ⟨cf, kf, fi, f, hi, hsl⟩ := hS k hkN
  have hst := (u_facts hfc hkC (u_lays hts hin hkN) hi).1
  have hap := va_apart (own := xk_cls y) hts hin (xk_ty ci) hpt hnm hK hq
  have fin : ∀ H' : Heap, H'[xk_ad E a]? = some (cell.setSlot (E.1.2 ci k) (xk_v E v)) → H'.size = H.size → (∀ q, q ≠ xk_ad E a → H'[q]? = H[q]?) → W p l e (xk_Rm y) s mid args below meth c H' (locs ++ [⟨xk_ad E a, E.1.2 ci k⟩]) ce sl (xk_Fin E y Q below args s) (F0 mid (pc + 3) ls (st.map (xk_v E))) := by
    intro H' e1 e2 e3
    refine K p l e s mid args below meth c H' _ ls C0 (R.upd ha hn e2 e3 hm hr ?_) (xk_loc hf ha) hL
    unfold xk_cell
    rw [hk]
    refine ⟨q, hq, t_OB.to (V := updV (fun j => xk_f E (xk_rf ci j) m r a j) k (xk_v E v)) ⟨_, e1, c2, c3, t_set c4 hap hkN (xk_v E v)⟩ (fun j _ => ?_)⟩
    by_cases hj : j = k
    · subst hj
      simp only [updV, if_true]
      exact hs.symm
    · obtain ⟨o1, o2⟩ := ho j hj
      simp only [updV, if_neg hj]
      unfold xk_f
      rw [o1, o2]
  have hslot : f.slot < cell.slots.size := by rw [hsl]; exact k2_hasslot (c4 k hkN)
  cases hF : (q.2.1 k).2.2.2 with
  | false =>
    have hlay := hts _ (hin _ (u_in_lay hkN))
    unfold u_lay at hlay
    rw [if_neg (by rw [hF]; decide)] at hlay
    have h6 := u_store hfc hkC hkind hlay hi (hpt k hkN) hty.1 hty.2
    rcases hlk with hlk | ⟨host, hlk⟩
    · refine W.putK hx hb (f := f) ⟨hown, hts _ hlk, ⟨_, _, _, hi⟩, hst⟩ (by rw [c2]; exact h6) c1 c3 hslot rfl rfl hd fun H' e1 e2 e3 => ?_
      rw [hsl] at e1 ⊢
      exact fin H' e1 e2 e3
    · refine va_WputK hx hb (f := f) hown (va_Nw.use rfl (hnw _ hlk)) hi hst (by rw [c2]; exact h6) c1 c3 hslot rfl rfl hd fun H' e1 e2 e3 => ?_
      rw [hsl] at e1 ⊢
      exact fin H' e1 e2 e3
  | true =>
    obtain ⟨hi1, hi2, hi3⟩ := hfin q hq hF
    have hlay := hts _ (hin _ (u_in_lay hkN))
    unfold u_lay at hlay
    rw [if_pos hF] at hlay
    have hcf : mid.cls = cf := by
      obtain ⟨_, _, c', _, _, _, -, -, hf', -, -, -, hown2, -⟩ := Cond.laysFinal_spec hlay
      have e1 : c' = cf := by have := hi.symm.trans hf'; simp at this; exact this.1.symm
      rw [hi2] at hown2
      rw [← e1]; exact Option.some.inj (hown.symm.trans hown2)
    have h6 := u_fits hfc hkC hkind (Or.inr hlay) hi (hpt k hkN) hty.1 hty.2
    rcases hlk with hlk | ⟨host, hlk⟩
    · refine W.putFinK hx hb hown (hts _ hlk) hi hst hcf ((hname hi3).trans hi1) (by rw [c2]; exact h6) c1 c3 hslot rfl rfl hd fun H' e1 e2 e3 => ?_
      rw [hsl] at e1 ⊢
      exact fin H' e1 e2 e3
    · refine va_Wputf hx hb hown (va_Nw.use rfl (hnw _ hlk)) hi hst (Or.inr ⟨hcf, (hname hi3).trans hi1⟩) c1 (by rw [c3]; exact fun h => by cases h) hslot h6.1 (by rw [c2, c3]; exact h6.2) rfl rfl hd ?_
      have ha' : xk_ad E a < H.size := (Array.getElem?_eq_some_iff.mp c1).1
      rw [hsl]
      refine fin _ ?_ ?_ ?_
      · simp [Array.getElem?_setIfInBounds, ha']
      · simp
      · intro q hq
        simp [Array.getElem?_setIfInBounds, Ne.symm hq]
theorem xk_putI {idx ci k a : Nat} {x : Int32} (hd : decode (xk_B y) pc = .ok (.putfield idx, 3)) (hl : xk_FL (xk_cls y) idx ci k) (hk : xk_kd a = .inl ci) (hrf : xk_rf ci k = false) (hfin : ∀ q : vw_C, xk_cl[ci]? = some q → (q.2.1 k).2.2.2 = true → (xk_N y).name = "<init>" ∧ (q.2.1 k).1 = xk_cls y ∧ y.1 = false)
    (hty : narrow (xk_ty ci k) (.int x) = .int x ∧ fits (xk_ty ci k) (.int x) = true) (ha : 1 ≤ a) (hn : a < n) (K : xk_W E y (pc + 3) Lc st n (xk_up m a k x) r ce sl Q) : xk_W E y pc Lc (.inl x :: .inr (some a) :: st) n m r ce sl Q :=
  xk_putf hd hl hk ha hn hfin hty (fun b hb => by funext j; exact xk_up_a hb) (fun _ _ => rfl) (by rw [hrf]; unfold xk_f; rw [if_neg (by decide), xk_up_s]; rfl) (fun j hj => ⟨xk_up_k hj, rfl⟩) K
theorem xk_putR {idx ci k a : Nat} {o : Option Nat} (hd : decode (xk_B y) pc = .ok (.putfield idx, 3)) (hl : xk_FL (xk_cls y) idx ci k) (hk : xk_kd a = .inl ci) (hrf : xk_rf ci k = true) (hfin : ∀ q : vw_C, xk_cl[ci]? = some q → (q.2.1 k).2.2.2 = true → (xk_N y).name = "<init>" ∧ (q.2.1 k).1 = xk_cls y ∧ y.1 = false)
    (hty : narrow (xk_ty ci k) (xk_v E (.inr o)) = xk_v E (.inr o) ∧ fits (xk_ty ci k) (xk_v E (.inr o)) = true) (ha : 1 ≤ a) (hn : a < n) (K : xk_W E y (pc + 3) Lc st n m (xk_up r a k o) ce sl Q) : xk_W E y pc Lc (.inr o :: .inr (some a) :: st) n m r ce sl Q :=
  xk_putf hd hl hk ha hn hfin hty (fun _ _ => rfl) (fun b hb => by funext j; exact xk_up_a hb) (by rw [hrf]; unfold xk_f; rw [if_pos rfl, xk_up_s]) (fun j hj => ⟨rfl, xk_up_k hj⟩) K
theorem xk_arr {a t len : Nat} {H : Heap} (R : xk_R E n m r H) (hk : xk_kd a = .inr (t, len)) (ha : 1 ≤ a) (hn : a < n) : H[xk_ad E a]? = some (arrV (E.2.1 t) len (fun j => xk_f E (decide (2 ≤ t)) m r a j)) := by
  have hc := R.2.2.1 a ha hn
  unfold xk_cell at hc
  rw [hk] at hc
  exact hc
theorem xk_iaload {a len i : Nat} {j : Int32} (hd : decode (xk_B y) pc = .ok (.iaload, 1)) (hk : xk_kd a = .inr (0, len)) (ha : 1 ≤ a) (hn : a < n) (hj : j = nI i) (hi : i < len) (hlen : len < 2 ^ 31) (K : xk_W E y (pc + 1) Lc (.inl (m a i) :: st) n m r ce sl Q) : xk_W E y pc Lc (.inl j :: .inr (some a) :: st) n m r ce sl Q := by
  intro p l e s mid args below meth c H locs ls C R hf hL
  subst hj
  have hc := nI_clamp (n := i) (by omega)
  exact W.iald (v := .int (m a i)) C.1 C.2.1 (xk_arr R hk ha hn) ((C.2.2.2.2.2.2.2.2.1.1.2 0 _ rfl).1 len _) (fun q => by cases q) (by rw [arrV_size]; exact nI_in hi hlen) (by rw [hc, arrV_read _ _ hi]; rfl) rfl rfl hd (K p l e s mid args below meth c H locs ls C R hf hL)
theorem xk_baload {a len i : Nat} {j : Int32} (hd : decode (xk_B y) pc = .ok (.baload, 1)) (hk : xk_kd a = .inr (1, len)) (ha : 1 ≤ a) (hn : a < n) (hj : j = nI i) (hi : i < len) (hlen : len < 2 ^ 31) (K : xk_W E y (pc + 1) Lc (.inl (m a i) :: st) n m r ce sl Q) : xk_W E y pc Lc (.inl j :: .inr (some a) :: st) n m r ce sl Q := by
  intro p l e s mid args below meth c H locs ls C R hf hL
  subst hj
  have hc := nI_clamp (n := i) (by omega)
  exact W.zald (v := .int (m a i)) C.1 C.2.1 (xk_arr R hk ha hn) ((C.2.2.2.2.2.2.2.2.1.1.2 1 _ rfl).1 len _) (fun q => by cases q) (by rw [arrV_size]; exact nI_in hi hlen) (by rw [hc, arrV_read _ _ hi]; rfl) rfl rfl hd (K p l e s mid args below meth c H locs ls C R hf hL)
theorem xk_tyr {t : Nat} (h2 : 2 ≤ t) (h5 : t < 5) : (xk_tys E)[t]? = some (E.2.1 t, xk_aty t) ∧ ∃ C, xk_aty t = .object C := by
  rcases (by omega : t = 2 ∨ t = 3 ∨ t = 4) with rfl | rfl | rfl <;> exact ⟨rfl, _, rfl⟩
theorem xk_aaload {a t len i : Nat} {j : Int32} (hd : decode (xk_B y) pc = .ok (.aaload, 1)) (hk : xk_kd a = .inr (t, len)) (h2 : 2 ≤ t) (h5 : t < 5) (ha : 1 ≤ a) (hn : a < n) (hj : j = nI i) (hi : i < len) (hlen : len < 2 ^ 31) (K : xk_W E y (pc + 1) Lc (.inr (r a i) :: st) n m r ce sl Q) : xk_W E y pc Lc (.inl j :: .inr (some a) :: st) n m r ce sl Q := by
  intro p l e s mid args below meth c H locs ls C R hf hL
  subst hj
  have hc := nI_clamp (n := i) (by omega)
  obtain ⟨e1, D, e2⟩ := xk_tyr (E := E) h2 h5
  have hA := (C.2.2.2.2.2.2.2.2.1.1.2 t _ e1).1 len
  exact W.aald (v := xk_v E (.inr (r a i))) (ty := xk_aty t) C.1 C.2.1 (xk_arr R hk ha hn) (hA _) (by rw [e2]; rfl) (fun q => by cases q) (by rw [arrV_size]; exact nI_in hi hlen) (by rw [hc, arrV_read _ _ hi, show decide (2 ≤ t) = true from decide_eq_true h2]; rfl) rfl rfl hd (K p l e s mid args below meth c H locs ls C R hf hL)
theorem xk_updV {E : xk_E} {b : Bool} {m m' : xk_M} {r r' : xk_P} {a i : Nat} {w : Value} (hs : xk_f E b m' r' a i = w) (ho : ∀ j, j ≠ i → m' a j = m a j ∧ r' a j = r a j) : updV (fun j => xk_f E b m r a j) i w = fun j => xk_f E b m' r' a j := by
  funext j
  by_cases hj : j = i
  · subst hj
    simp only [updV, if_true]
    exact hs.symm
  · obtain ⟨o1, o2⟩ := ho j hj
    simp only [updV, if_neg hj]
    unfold xk_f
    rw [o1, o2]
theorem xk_iastore {a len i : Nat} {j x : Int32} (hd : decode (xk_B y) pc = .ok (.iastore, 1)) (hk : xk_kd a = .inr (0, len)) (ha : 1 ≤ a) (hn : a < n) (hj : j = nI i) (hi : i < len) (hlen : len < 2 ^ 31) (K : xk_W E y (pc + 1) Lc st n (xk_up m a i x) r ce sl Q) : xk_W E y pc Lc (.inl x :: .inl j :: .inr (some a) :: st) n m r ce sl Q := by
  intro p l e s mid args below meth c H locs ls C R hf hL
  subst hj
  have hc := nI_clamp (n := i) (by omega)
  refine W.iast C.1 C.2.1 (xk_arr R hk ha hn) ((C.2.2.2.2.2.2.2.2.1.1.2 0 _ rfl).1 len _) (fun q => by cases q) (by rw [arrV_size]; exact nI_in hi hlen) rfl rfl hd fun H' e1 e2 e3 => ?_
  rw [hc, arrV_store] at e1
  refine K p l e s mid args below meth c H' _ ls C (R.upd ha hn e2 e3 (fun b hb => by funext q; exact xk_up_a hb) (fun _ _ => rfl) ?_) (xk_loc hf ha) hL
  unfold xk_cell
  rw [hk, e1]
  exact congrArg (fun f => some (arrV (E.2.1 0) len f)) (xk_updV (by unfold xk_f; rw [if_neg (by decide), xk_up_s]) (fun q hq => ⟨xk_up_k hq, rfl⟩))
theorem xk_bastore {a len i : Nat} {j x : Int32} (hd : decode (xk_B y) pc = .ok (.bastore, 1)) (hk : xk_kd a = .inr (1, len)) (ha : 1 ≤ a) (hn : a < n) (hj : j = nI i) (hi : i < len) (hlen : len < 2 ^ 31) (hx : narrow .boolean (.int x) = .int x) (K : xk_W E y (pc + 1) Lc st n (xk_up m a i x) r ce sl Q) : xk_W E y pc Lc (.inl x :: .inl j :: .inr (some a) :: st) n m r ce sl Q := by
  intro p l e s mid args below meth c H locs ls C R hf hL
  subst hj
  have hc := nI_clamp (n := i) (by omega)
  refine W.zast C.1 C.2.1 (xk_arr R hk ha hn) ((C.2.2.2.2.2.2.2.2.1.1.2 1 _ rfl).1 len _) (fun q => by cases q) (by rw [arrV_size]; exact nI_in hi hlen) rfl rfl hd fun H' e1 e2 e3 => ?_
  rw [hc, hx, arrV_store] at e1
  refine K p l e s mid args below meth c H' _ ls C (R.upd ha hn e2 e3 (fun b hb => by funext q; exact xk_up_a hb) (fun _ _ => rfl) ?_) (xk_loc hf ha) hL
  unfold xk_cell
  rw [hk, e1]
  exact congrArg (fun f => some (arrV (E.2.1 1) len f)) (xk_updV (by unfold xk_f; rw [if_neg (by decide), xk_up_s]) (fun q hq => ⟨xk_up_k hq, rfl⟩))
theorem xk_aastore {a b t len i ci : Nat} {j : Int32} {q : vw_C} (hd : decode (xk_B y) pc = .ok (.aastore, 1)) (hk : xk_kd a = .inr (t, len)) (h2 : 2 ≤ t) (h5 : t < 5) (ha : 1 ≤ a) (hn : a < n) (hj : j = nI i) (hi : i < len) (hlen : len < 2 ^ 31) (hkb : xk_kd b = .inl ci) (hq : xk_cl[ci]? = some q) (hq1 : xk_aty t = .object q.1) (hb1 : 1 ≤ b) (hbn : b < n)
    (K : xk_W E y (pc + 1) Lc st n m (xk_up r a i (some b)) ce sl Q) : xk_W E y pc Lc (.inr (some b) :: .inl j :: .inr (some a) :: st) n m r ce sl Q := by
  intro p l e s mid args below meth c H locs ls C R hf hL
  subst hj
  have hc := nI_clamp (n := i) (by omega)
  obtain ⟨e1, D, e2⟩ := xk_tyr (E := E) h2 h5
  obtain ⟨hK1, hK2⟩ := C.2.2.2.2.2.2.2.2.1.1
  have hcb := R.2.2.1 b hb1 hbn
  unfold xk_cell at hcb
  rw [hkb] at hcb
  obtain ⟨q', hq', cellV, g1, g2, g3, -⟩ := hcb
  cases hq.symm.trans hq'
  have hcls := (hK1 ci q hq).2
  have hRA := (hK2 t _ e1).2
  rw [hq1] at hRA
  obtain ⟨kA, comp, k1, k2, k3, -⟩ := hRA
  have hcomp : comp = E.1.1 ci := Option.some.inj (k3.symm.trans hcls.1)
  subst hcomp
  obtain ⟨kC, hkC, -⟩ := hcls.2
  refine W.aast C.1 C.2.1 (xk_arr R hk ha hn) (fun q h => by cases h) (fun h => by cases h) k1 k2 rfl hkC ⟨nI_pos (by omega), by rw [hc, arrV_size]; exact hi⟩ g1 (fun q h => by rw [g3] at h; cases h) (by rw [g2]; exact hkC) (by rw [g2]; exact va_assign hcls) rfl rfl hd fun H' e1 e2 e3 => ?_
  rw [hc, arrV_store] at e1
  refine K p l e s mid args below meth c H' _ ls C (R.upd ha hn e2 e3 (fun _ _ => rfl) (fun b hb => by funext q; exact xk_up_a hb) ?_) (xk_loc hf ha) hL
  unfold xk_cell
  rw [hk, e1]
  exact congrArg (fun f => some (arrV (E.2.1 t) len f)) (xk_updV (by unfold xk_f; rw [if_pos (decide_eq_true h2), xk_up_s]; rfl) (fun q hq => ⟨rfl, xk_up_k hq⟩))
theorem xk_aastoreN {a t len i : Nat} {j : Int32} (hd : decode (xk_B y) pc = .ok (.aastore, 1)) (hk : xk_kd a = .inr (t, len)) (h2 : 2 ≤ t) (h5 : t < 5) (ha : 1 ≤ a) (hn : a < n) (hj : j = nI i) (hi : i < len) (hlen : len < 2 ^ 31)
    (K : xk_W E y (pc + 1) Lc st n m (xk_up r a i none) ce sl Q) : xk_W E y pc Lc (.inr none :: .inl j :: .inr (some a) :: st) n m r ce sl Q := by
  intro p l e s mid args below meth c H locs ls C R hf hL
  subst hj
  have hc := nI_clamp (n := i) (by omega)
  obtain ⟨e1, D, e2⟩ := xk_tyr (E := E) h2 h5
  have hA := (C.2.2.2.2.2.2.2.2.1.1.2 t _ e1).1 len
  rw [e2] at hA
  refine va_WaastN (C := D) C.1 C.2.1 (xk_arr R hk ha hn) (hA _) (fun h => by cases h) (by rw [arrV_size]; exact nI_in hi hlen) rfl rfl hd fun H' e1 e2 e3 => ?_
  rw [hc, arrV_store] at e1
  refine K p l e s mid args below meth c H' _ ls C (R.upd ha hn e2 e3 (fun _ _ => rfl) (fun b hb => by funext q; exact xk_up_a hb) ?_) (xk_loc hf ha) hL
  unfold xk_cell
  rw [hk, e1]
  exact congrArg (fun f => some (arrV (E.2.1 t) len f)) (xk_updV (by unfold xk_f; rw [if_pos (decide_eq_true h2), xk_up_s]; rfl) (fun q hq => ⟨rfl, xk_up_k hq⟩))
/-- a cell is made -/
theorem xk_R.push {E : xk_E} {n : Nat} {m : xk_M} {r : xk_P} {H H' : Heap} (h : xk_R E n m r H) (hs : H'.size = H.size + 1) (ho : ∀ q, q < H.size → H'[q]? = H[q]?) (hc : xk_cell E m r n H') : xk_R E (n + 1) m r H' := by
  obtain ⟨h1, h2, h3, ⟨h4, h5⟩, h6⟩ := h
  refine ⟨by omega, by omega, fun b hb hbn => ?_, ⟨?_, h5⟩, fun b hb k => h6 b (by omega) k⟩
  · by_cases hba : b = n
    · subst hba; exact hc
    · refine (h3 b hb (by omega)).kept (ho _ ?_) rfl rfl
      unfold xk_ad
      rw [if_neg (by omega)]
      omega
  · rw [ho _ (by omega)]
    exact h4
theorem xk_ad_n {n : Nat} {H : Heap} (h : xk_R E n m r H) : xk_ad E n = H.size := by
  unfold xk_ad
  rw [if_neg (by have := h.1; omega), h.2.1]
theorem xk_dfl {ci k : Nat} (hz : m n k = 0 ∧ r n k = none) (hd : defaultValue (xk_ty ci k) = if xk_rf ci k = true then Value.null else .int 0) : defaultValue (xk_ty ci k) = xk_f E (xk_rf ci k) m r n k := by
  rw [hd]
  unfold xk_f
  rw [hz.1, hz.2]
  rfl
theorem xk_new {idx ci : Nat} {q : vw_C} (hd : decode (xk_B y) pc = .ok (.new idx, 3)) (hk : xk_kd n = .inl ci) (hq : xk_cl[ci]? = some q) (hdf : ∀ k, k < q.2.2 → defaultValue (xk_ty ci k) = if xk_rf ci k = true then Value.null else .int 0)
    (h1 : Cond.classLink (xk_cls y) idx q.1 ∈ xk_kt) (h2 : Cond.instantiable q.1 q.2.2 ∈ xk_kt) (h3 : Cond.initialized q.1 ∈ xk_kt) (hc : ce + 1 ≤ (xk_Rm y).cells) (hs : sl + q.2.2 ≤ (xk_Rm y).slots)
    (K : (∀ k, m n k = 0 ∧ r n k = none) → xk_W E y (pc + 3) Lc (.inr (some n) :: st) (n + 1) m r (ce + 1) (sl + q.2.2) Q) : xk_W E y pc Lc st n m r ce sl Q := by
  intro p l e s mid args below meth c H locs ls C R hf hL
  have C0 := C
  obtain ⟨hx, hb, -, -, hown, hts, -, -, ⟨hK, -, -, -⟩, -⟩ := C
  obtain ⟨hin, hpt, hnm⟩ := xk_clall ci q hq
  have hKn := hK.1 ci q hq
  refine W.newcK hx hb hown (hts _ h1) (hts _ h2) (hts _ h3) rfl hd hc hs hKn.2.1 rfl fun H1 kC hkC e1 z1 o1 => ?_
  have hz := R.2.2.2.2 n (Nat.le_refl n)
  have K' := K hz p l e s mid args below meth c H1 locs ls C0 (R.push z1 o1 ?_) hf hL
  · have e : ((Sum.inr (some n) :: st : List xk_V).map (xk_v E)) = .ref H.size :: st.map (xk_v E) := by
      rw [List.map_cons, ← xk_ad_n R]
      rfl
    rw [e] at K'
    exact K'
  · unfold xk_cell
    rw [hk]
    rw [← xk_ad_n R] at e1
    exact ⟨q, hq, (u_born (xk_ty ci) hts hin hKn hkC e1 hpt).to (fun j hj => xk_dfl (hz j) (hdf j hj))⟩
theorem xk_newarr {t len : Nat} {at_ : ArrayType} {x : Int32} (hd : decode (xk_B y) pc = .ok (.newarray at_, 2)) (hk : xk_kd n = .inr (t, len)) (ht : t < 2) (hty : newarray.typeOf at_ = xk_aty t) (hw : Cond.arrayClass (newarray.typeOf at_) ∈ xk_kt) (hx : x = nI len) (hlen : len < 2 ^ 20) (hc : ce + 1 ≤ (xk_Rm y).cells) (hs : sl + len ≤ (xk_Rm y).slots)
    (K : (∀ k, m n k = 0 ∧ r n k = none) → xk_W E y (pc + 2) Lc (.inr (some n) :: st) (n + 1) m r (ce + 1) (sl + len) Q) : xk_W E y pc Lc (.inl x :: st) n m r ce sl Q := by
  intro p l e s mid args below meth c H locs ls C R hf hL
  subst hx
  have C0 := C
  obtain ⟨hx, hb, -, -, hown, hts, -, -, ⟨hK, -, -, -⟩, -⟩ := C
  refine va_newaK hx hb (hts _ hw) rfl hd rfl (nI_pos (by omega)) (nI_clamp (by omega)) (by rw [hty]; rcases (by omega : t = 0 ∨ t = 1) with rfl | rfl <;> simp [xk_aty, componentBytes] <;> omega) hc hs rfl fun H1 cA e1 z1 o1 hAr hNm => ?_
  have hz := R.2.2.2.2 n (Nat.le_refl n)
  have hcA : E.2.1 t = cA := by
    rcases (by omega : t = 0 ∨ t = 1) with rfl | rfl
    · have h := (hK.2 0 _ rfl).2
      rw [hty] at hNm
      exact Option.some.inj (h.symm.trans hNm)
    · have h := (hK.2 1 _ rfl).2
      rw [hty] at hNm
      exact Option.some.inj (h.symm.trans hNm)
  have K' := K hz p l e s mid args below meth c H1 locs ls C0 (R.push z1 o1 ?_) hf hL
  · have e : ((Sum.inr (some n) :: st : List xk_V).map (xk_v E)) = .ref H.size :: st.map (xk_v E) := by
      rw [List.map_cons, ← xk_ad_n R]
      rfl
    rw [e] at K'
    exact K'
  · unfold xk_cell
    rw [hk]
    rw [← xk_ad_n R] at e1
    show H1[xk_ad E n]? = _
    rw [e1, hcA]
    congr 2
    funext j
    rw [hty]
    unfold xk_f
    rw [(hz j).1, if_neg (by simp; omega)]
    rcases (by omega : t = 0 ∨ t = 1) with rfl | rfl <;> rfl
theorem xk_anew {idx t len : Nat} {D : String} {x : Int32} (hd : decode (xk_B y) pc = .ok (.anewarray idx, 3)) (hk : xk_kd n = .inr (t, len)) (h2 : 2 ≤ t) (h5 : t < 5) (hty : xk_aty t = .object D) (hw : Cond.classLink (xk_cls y) idx D ∈ xk_kt) (hao : D ∈ xk_ao) (hx : x = nI len) (hlen : len < 2 ^ 20) (hc : ce + 1 ≤ (xk_Rm y).cells) (hs : sl + len ≤ (xk_Rm y).slots)
    (K : (∀ k, m n k = 0 ∧ r n k = none) → xk_W E y (pc + 3) Lc (.inr (some n) :: st) (n + 1) m r (ce + 1) (sl + len) Q) : xk_W E y pc Lc (.inl x :: st) n m r ce sl Q := by
  intro p l e s mid args below meth c H locs ls C R hf hL
  subst hx
  have C0 := C
  obtain ⟨hx, hb, -, -, hown, hts, -, -, ⟨hK, -, -, hAO⟩, -⟩ := C
  have hcl := nI_clamp (n := len) (by omega)
  refine W.anew hx hb hown (hts _ hw) (va_AO.use (hAO D hao)) rfl hd rfl (nI_pos (by omega)) (by rw [hcl]; omega) hc (by rw [hcl]; exact hs) fun cA kA comp f1 f2 f3 f4 => ?_
  rw [hcl]
  generalize hH1 : H.push ({ cls := cA, slots := Array.replicate len .null, vm := .none } : Cell) = H1
  have z1 : H1.size = H.size + 1 := by rw [← hH1, Array.size_push]
  have e1 : H1[H.size]? = some (arrV cA len (fun _ => .null)) := by rw [← hH1, Array.getElem?_push_size, ← arrV_new]
  have o1 : ∀ q : Nat, q < H.size → H1[q]? = H[q]? := fun q hq => by rw [← hH1, Array.getElem?_push, if_neg (Nat.ne_of_lt hq)]
  have hz := R.2.2.2.2 n (Nat.le_refl n)
  have hcA : E.2.1 t = cA := by
    have h := (hK.2 t _ (xk_tyr (E := E) h2 h5).1).2
    rw [hty] at h
    obtain ⟨_, _, -, -, -, h⟩ := h
    exact Option.some.inj (h.symm.trans f1)
  have K' := K hz p l e s mid args below meth c H1 locs ls C0 (R.push z1 o1 ?_) hf hL
  · have e : ((Sum.inr (some n) :: st : List xk_V).map (xk_v E)) = .ref H.size :: st.map (xk_v E) := by
      rw [List.map_cons, ← xk_ad_n R]
      rfl
    rw [e] at K'
    exact K'
  · unfold xk_cell
    rw [hk]
    rw [← xk_ad_n R] at e1
    show H1[xk_ad E n]? = _
    rw [e1, hcA]
    congr 2
    funext j
    unfold xk_f
    rw [(hz j).2, if_pos (decide_eq_true h2)]
    rfl
end XH
end
section
/-! the machine's calls and returns -/
def xk_Pc (E : xk_E) (as : List xk_V) (n : Nat) (m : xk_M) (r : xk_P) : Array Value → State → Prop := fun av U => av = (as.map (xk_v E)).toArray ∧ xk_R E n m r U.heap ∧ xk_K E U
theorem xk_blind {E : xk_E} {as : List xk_V} {n : Nat} {m : xk_M} {r : xk_P} : FrameBlind (xk_Pc E as n m r) := fun _ _ _ _ h => ⟨h.1, h.2.1, h.2.2.same rfl⟩
/-- what is asked once of a method: its words -/
def xk_mok (y : xk_Y) (np : Nat) : Prop := y.1 = false ∧ plainName (xk_cls y) = true ∧ Cond.code (xk_N y) (xk_B y) (xk_L y) (xk_ret y) ∈ xk_kt ∧ Cond.initialized (xk_cls y) ∈ xk_kt ∧ (xk_cls y ≠ "java/lang/invoke/MethodHandle" ∧ xk_cls y ≠ "java/lang/invoke/VarHandle") ∧ (parseMethodDescriptor (xk_N y).desc).map (fun d => d.parameters.length) = some np
/-- the locals at a method's entry -/
def xk_ent (y : xk_Y) (as : List xk_V) : List (Option xk_V) := as.map some ++ List.replicate (xk_L y - as.length) none
theorem xk_sl1 (E : xk_E) (as : List xk_V) : lg_sl (as.map (xk_v E)) = as.map (fun v => Slot.val (xk_v E v)) := by
  induction as with
  | nil => rfl
  | cons v as ih =>
    show (if (xk_v E v).category = 2 then _ else _) ++ lg_sl (as.map (xk_v E)) = _
    rw [if_neg (by rw [xk_cat]; decide), ih]
    rfl
theorem xk_args1 (E : xk_E) (as : List xk_V) : ∀ (i j : Nat) (v : xk_V), as[j]? = some v → (i + j, xk_v E v) ∈ lv_args i (as.map (xk_v E)) := by
  induction as with
  | nil => intro i j v h; simp at h
  | cons w as ih =>
    intro i j v h
    rw [List.map_cons]
    unfold lv_args
    rw [if_neg (by rw [xk_cat]; decide)]
    cases j with
    | zero =>
      rw [List.getElem?_cons_zero] at h
      cases h
      exact List.mem_cons_self
    | succ j =>
      rw [List.getElem?_cons_succ] at h
      have := ih (i + 1) j v h
      rw [show i + 1 + j = i + (j + 1) by omega] at this
      exact List.mem_cons_of_mem _ this
theorem xk_met {E : xk_E} {y : xk_Y} {np n : Nat} {as : List xk_V} {m : xk_M} {r : xk_P} {Q : xk_Q} (hm : xk_mok y np) (hlen : as.length ≤ xk_L y) (B : xk_W E y 0 (xk_ent y as) [] n m r 0 0 Q) (l : Launch) : Met l (xk_N y) (xk_ws y) (xk_Rm y) (xk_Pc E as n m r) (xk_Qc E Q) (xk_Rm y).cells (xk_Rm y).slots (xk_fr E) := by
  obtain ⟨h0, h1, -, -, -, -⟩ := hm
  refine Met.ofW (cc := xk_B y) (maxL := xk_L y) (ret := xk_ret y) h1 rfl ?_
  intro p e s mid av below meth c s₁ Bd hml hv
  obtain ⟨rfl, hR, hK⟩ := hv
  have hts := atoms_spec (ws := xk_ws y) Bd.pre
  have hl := lv_entry (as.map (xk_v E)) (n := xk_L y) (by rw [xk_sl1, List.length_map]; exact hlen)
  rw [lg_entry_eq]
  generalize (lg_sl (as.map (xk_v E)) ++ List.replicate (xk_L y - (lg_sl (as.map (xk_v E))).length) Slot.unset).toArray = ls at hl ⊢
  have hLo : xk_Lo E ls (xk_L y) (xk_ent y as) := by
    refine ⟨hl.1, hl.2.1, fun i v hi => ?_⟩
    have hi2 : as[i]? = some v := by
      unfold xk_ent at hi
      by_cases hlt : i < (as.map (some : xk_V → Option xk_V)).length
      · rw [List.getElem?_append_left hlt, List.getElem?_map] at hi
        cases ha : as[i]? with
        | none => rw [ha] at hi; cases hi
        | some w => rw [ha] at hi; cases hi; rfl
      · rw [List.getElem?_append_right (by omega)] at hi
        have := List.eq_of_mem_replicate (List.mem_of_getElem? hi)
        cases this
    have := xk_args1 E as 0 i v hi2
    rw [Nat.zero_add] at this
    exact hl.2.2 _ this
  have K := B p l e s mid (as.map (xk_v E)).toArray below meth c s.heap [] ls ⟨Bd.exec, Bd.bytes, Bd.returns, hml, findClass_of_methodNamed Bd.named, fun w hw => hts w (List.mem_cons_of_mem _ hw), Bd.notSynchronized, fun _ => (name_of_methodNamed Bd.named Bd.method).1, hK, fun h => by rw [h0] at h; cases h⟩ hR (fun q h => by cases h) hLo
  rw [xk_Fin_m h0] at K
  exact K
/-- the rooms of a caller and its callee -/
def xk_room (y z : xk_Y) : Bool := Nat.ble ((xk_Rm z).frames + 1) (xk_Rm y).frames && Nat.ble (8 + (xk_L z + 11) + (xk_Rm z).locals) (xk_Rm y).locals
theorem xk_sum (E : xk_E) (st : List xk_V) : ((st.map (xk_v E)).map fun v => v.category).sum = st.length := by
  induction st with
  | nil => rfl
  | cons v st ih =>
    rw [List.map_cons, List.map_cons, List.sum_cons, ih, xk_cat, List.length_cons]
    omega
theorem xk_kt_pay {args : Array Value} {s : State} {y : xk_Y} (hts : ∀ w ∈ xk_kt, w.before args s = true) (hc : Cond.code (xk_N y) (xk_B y) (xk_L y) (xk_ret y) ∈ xk_kt) : ∀ w ∈ xk_ws y, ∀ (a' : Array Value) (U : State), s.WarmedH U.vm → w.before a' U = true := by
  intro w hw a' U hW
  have hk : w ∈ xk_kt := by
    rcases List.mem_cons.mp hw with rfl | h
    · exact hc
    · exact h
  exact word_at hW (xk_kt_good w hk) (hts w hk)
section XC
variable {E : xk_E} {y : xk_Y} {pc n ce sl : Nat} {Lc : List (Option xk_V)} {st : List xk_V} {m : xk_M} {r : xk_P} {Q : xk_Q}
/-- what goes on behind a call -/
def xk_on (E : xk_E) (y : xk_Y) (pc : Nat) (Lc : List (Option xk_V)) (st : List xk_V) (ce sl : Nat) (Q : xk_Q) : xk_Q := fun v n' m' r' => xk_W E y pc Lc (v.toList ++ st) n' m' r' ce sl Q
theorem xk_behind {p : Program} {l : Launch} {e : Env} {s : State} {mid : MethodId} {args : Array Value} {below : List Frame} {meth : Method} {c : Code} {H : Heap} {locs : List Loc} {ls : Array Slot} {z : xk_Y} {st0 : List Value} {av : Array Value}
    (C : xk_C E y p s mid args meth c) (hf : ∀ q ∈ locs, xk_fr E q.base) (hL : xk_Lo E ls (xk_L y) Lc)
    (hr : va_Run p l e (xk_Rm y) s mid args below meth c H locs ce sl (xk_Rm z).cells (xk_Rm z).slots (F0 mid pc ls st0) (st.map (xk_v E)) (xk_Qc E (xk_on E y (pc + 3) Lc st (ce + (xk_Rm z).cells) (sl + (xk_Rm z).slots) Q) av) (xk_fr E)) :
    W p l e (xk_Rm y) s mid args below meth c H locs ce sl (xk_Fin E y Q below args s) (F0 mid pc ls st0) := by
  intro T hT X
  obtain ⟨v, st₀, t, T', L, h0, X', hL2, e1, e2, ⟨v', n', m', r', hv, hq, hR'⟩, go⟩ := hr T hT X
  have hv2 : v = v'.map (xk_v E) := Outcome.returned.inj hv
  subst hv2
  have K := hq p l e s mid args below meth c T'.heap (locs ++ L) ls C (by rw [e1]; exact hR') (t_lL hf hL2) hL
  obtain ⟨t2, a1, b1⟩ := K T' rfl X'
  refine ⟨t2, go t2 ?_, b1⟩
  have e : ((v'.toList ++ st).map (xk_v E)) = (v'.map (xk_v E)).toList ++ st.map (xk_v E) := by
    cases v' <;> rfl
  rw [e] at a1
  exact a1
/-- a link to method z from 'own' at 'idx' -/
def xk_ML (own : String) (idx : Nat) (z : xk_Y) : Prop := Cond.methodLink own idx (xk_N z) ∈ xk_kt ∨ ∃ host, Cond.methodLinkNest own idx (xk_N z) host ∈ xk_nw
theorem xk_callV {z : xk_Y} {idx np ci a : Nat} {q : vw_C} {as : List xk_V} (hd : decode (xk_B y) pc = .ok (.invokevirtual idx, 3)) (hl : xk_ML (xk_cls y) idx z) (hm : xk_mok z np) (hi : Cond.instanceMethod (xk_N z) ∈ xk_kt) (hse : Cond.selects (xk_cls z) (xk_N z) (xk_N z) ∈ xk_kt) (hroom : xk_room y z = true)
    (hk : xk_kd a = .inl ci) (hq : xk_cl[ci]? = some q) (hq1 : q.1 = xk_cls z) (ha : 1 ≤ a) (hn : a < n) (has : as.length = np) (hlen : np + 1 ≤ xk_L z) (hst : st.length ≤ 8) (hc : ce + (xk_Rm z).cells ≤ (xk_Rm y).cells) (hs : sl + (xk_Rm z).slots ≤ (xk_Rm y).slots)
    (B : xk_W E z 0 (xk_ent z (.inr (some a) :: as)) [] n m r 0 0 (xk_on E y (pc + 3) Lc st (ce + (xk_Rm z).cells) (sl + (xk_Rm z).slots) Q)) : xk_W E y pc Lc (as.reverse ++ .inr (some a) :: st) n m r ce sl Q := by
  intro p l e s mid args below meth c H locs ls C R hf hL
  have C0 := C
  obtain ⟨hx, hb, -, hml, hown, hts, -, -, hKK, -⟩ := C
  have hM := xk_met hm (as := .inr (some a) :: as) (by rw [List.length_cons]; omega) B l
  obtain ⟨h0, hpl, hcd, hini, hy, hd2⟩ := hm
  have hd3 : ∀ sig, parseMethodDescriptor (xk_N z).desc = some sig → np = sig.parameters.length := fun sig h => by
    rw [h] at hd2
    exact (Option.some.inj hd2).symm
  unfold xk_room at hroom
  rw [Bool.and_eq_true] at hroom
  have hrm := And.intro (Nat.le_of_ble_eq_true hroom.1) (Nat.le_of_ble_eq_true hroom.2)
  have hcell := R.2.2.1 a ha hn
  unfold xk_cell at hcell
  rw [hk] at hcell
  obtain ⟨q', hq', cellV, g1, g2, g3, -⟩ := hcell
  cases hq.symm.trans hq'
  have hpv : PreV s H (xk_cls z) (xk_ad E a) (xk_Pc E (.inr (some a) :: as) n m r) (as.map (xk_v E)) := ⟨xk_blind, ⟨cellV, g1, by rw [g3]; rfl, by rw [g2, ← hq1]; exact (hKK.1.1 ci q hq).2.1⟩, fun U hU hW => ⟨rfl, by rw [hU]; exact R, hKK.warm hW⟩⟩
  have est : ((as.reverse ++ Sum.inr (some a) :: st : List xk_V).map (xk_v E)) = (as.map (xk_v E)).reverse ++ .ref (xk_ad E a) :: st.map (xk_v E) := by
    rw [List.map_append, List.map_reverse]
    rfl
  rw [est]
  have hsum : 2 * (F0 mid pc ls ((as.map (xk_v E)).reverse ++ .ref (xk_ad E a) :: st.map (xk_v E))).monitorRoom + ((st.map (xk_v E)).map fun v => v.category).sum ≤ 8 := lv_room (by rw [xk_sum]; exact hst)
  rcases hl with hl | ⟨host, hl⟩
  · exact xk_behind C0 hf hL (va_runV (C := xk_cls z) (n := np) (Ts := xk_kt) ⟨hx, hb, hml, hown, hts⟩ hM ⟨⟨rfl, rfl, hrm.1, hrm.2, xk_kt_pay hts hcd, List.mem_cons_self, hts _ hcd, hts _ hini, hy, hd3, hts _ hl⟩, hts _ hi, hts _ hse⟩ hpv rfl (by rw [List.length_map]; exact has) hL.1 rfl hsum hd ⟨hc, hs⟩)
  · exact xk_behind C0 hf hL (va_runVN (C := xk_cls z) (n := np) (Ts := xk_kt) ⟨hx, hb, hml, hown, hts⟩ hM ⟨⟨⟨rfl, rfl, hrm.1, hrm.2, xk_kt_pay hts hcd, List.mem_cons_self⟩, hts _ hcd, hts _ hini, hy, hd3, va_Nw.use rfl (hKK.2.2.1 _ hl)⟩, hts _ hi, hts _ hse⟩ hpv rfl (by rw [List.length_map]; exact has) hL.1 rfl hsum hd ⟨hc, hs⟩)
theorem xk_callS {z : xk_Y} {idx np : Nat} {as : List xk_V} (hd : decode (xk_B y) pc = .ok (.invokestatic idx, 3)) (hl : xk_ML (xk_cls y) idx z) (hm : xk_mok z np) (hi : Cond.static (xk_N z) ∈ xk_kt) (hroom : xk_room y z = true)
    (has : as.length = np) (hlen : np ≤ xk_L z) (hst : st.length ≤ 8) (hc : ce + (xk_Rm z).cells ≤ (xk_Rm y).cells) (hs : sl + (xk_Rm z).slots ≤ (xk_Rm y).slots)
    (B : xk_W E z 0 (xk_ent z as) [] n m r 0 0 (xk_on E y (pc + 3) Lc st (ce + (xk_Rm z).cells) (sl + (xk_Rm z).slots) Q)) : xk_W E y pc Lc (as.reverse ++ st) n m r ce sl Q := by
  intro p l e s mid args below meth c H locs ls C R hf hL
  have C0 := C
  obtain ⟨hx, hb, -, hml, hown, hts, -, -, hKK, -⟩ := C
  have hM := xk_met hm (as := as) (by omega) B l
  obtain ⟨h0, hpl, hcd, hini, hy, hd2⟩ := hm
  have hd3 : ∀ sig, parseMethodDescriptor (xk_N z).desc = some sig → np = sig.parameters.length := fun sig h => by
    rw [h] at hd2
    exact (Option.some.inj hd2).symm
  unfold xk_room at hroom
  rw [Bool.and_eq_true] at hroom
  have hrm := And.intro (Nat.le_of_ble_eq_true hroom.1) (Nat.le_of_ble_eq_true hroom.2)
  have hpv : PreS s H (xk_Pc E as n m r) (as.map (xk_v E)) := ⟨xk_blind, fun U hU hW => ⟨rfl, by rw [hU]; exact R, hKK.warm hW⟩⟩
  have est : ((as.reverse ++ st : List xk_V).map (xk_v E)) = (as.map (xk_v E)).reverse ++ st.map (xk_v E) := by
    rw [List.map_append, List.map_reverse]
  rw [est]
  have hsum : 2 * (F0 mid pc ls ((as.map (xk_v E)).reverse ++ st.map (xk_v E))).monitorRoom + ((st.map (xk_v E)).map fun v => v.category).sum ≤ 8 := lv_room (by rw [xk_sum]; exact hst)
  rcases hl with hl | ⟨host, hl⟩
  · exact xk_behind C0 hf hL (va_runS (n := np) (Ts := xk_kt) ⟨hx, hb, hml, hown, hts⟩ hM ⟨⟨rfl, rfl, hrm.1, hrm.2, xk_kt_pay hts hcd, List.mem_cons_self, hts _ hcd, hts _ hini, hy, hd3, hts _ hl⟩, hts _ hi⟩ hpv rfl (by rw [List.length_map]; exact has) hL.1 rfl hsum hd ⟨hc, hs⟩)
  · exact xk_behind C0 hf hL (va_runSN (n := np) (Ts := xk_kt) ⟨hx, hb, hml, hown, hts⟩ hM ⟨⟨⟨rfl, rfl, hrm.1, hrm.2, xk_kt_pay hts hcd, List.mem_cons_self⟩, hts _ hcd, hts _ hini, hy, hd3, va_Nw.use rfl (hKK.2.2.1 _ hl)⟩, hts _ hi, trivial⟩ hpv rfl (by rw [List.length_map]; exact has) hL.1 rfl hsum hd ⟨hc, hs⟩)
theorem xk_callI {z : xk_Y} {idx np a : Nat} {as : List xk_V} (hd : decode (xk_B y) pc = .ok (.invokespecial idx, 3)) (hl : xk_ML (xk_cls y) idx z) (hm : xk_mok z np) (hret : xk_ret z = none) (hnm : (xk_N z).name = "<init>") (hi : Cond.instanceMethod (xk_N z) ∈ xk_kt) (hroom : xk_room y z = true)
    (has : as.length = np) (hlen : np + 1 ≤ xk_L z) (hst : st.length ≤ 8) (hc : ce + (xk_Rm z).cells ≤ (xk_Rm y).cells) (hs : sl + (xk_Rm z).slots ≤ (xk_Rm y).slots)
    (B : xk_W E z 0 (xk_ent z (.inr (some a) :: as)) [] n m r 0 0 (xk_on E y (pc + 3) Lc st (ce + (xk_Rm z).cells) (sl + (xk_Rm z).slots) Q)) : xk_W E y pc Lc (as.reverse ++ .inr (some a) :: st) n m r ce sl Q := by
  intro p l e s mid args below meth c H locs ls C R hf hL
  have C0 := C
  obtain ⟨hx, hb, -, hml, hown, hts, -, -, hKK, -⟩ := C
  have hM := xk_met hm (as := .inr (some a) :: as) (by rw [List.length_cons]; omega) B l
  obtain ⟨h0, hpl, hcd, hini, hy, hd2⟩ := hm
  have hd3 : ∀ sig, parseMethodDescriptor (xk_N z).desc = some sig → np = sig.parameters.length := fun sig h => by
    rw [h] at hd2
    exact (Option.some.inj hd2).symm
  unfold xk_room at hroom
  rw [Bool.and_eq_true] at hroom
  have hrm := And.intro (Nat.le_of_ble_eq_true hroom.1) (Nat.le_of_ble_eq_true hroom.2)
  have hpv : PreS s H (xk_Pc E (.inr (some a) :: as) n m r) (.ref (xk_ad E a) :: as.map (xk_v E)) := ⟨xk_blind, fun U hU hW => ⟨rfl, by rw [hU]; exact R, hKK.warm hW⟩⟩
  have est : ((as.reverse ++ Sum.inr (some a) :: st : List xk_V).map (xk_v E)) = (as.map (xk_v E)).reverse ++ .ref (xk_ad E a) :: st.map (xk_v E) := by
    rw [List.map_append, List.map_reverse]
    rfl
  rw [est]
  have hsum : 2 * (F0 mid pc ls ((as.map (xk_v E)).reverse ++ .ref (xk_ad E a) :: st.map (xk_v E))).monitorRoom + ((st.map (xk_v E)).map fun v => v.category).sum ≤ 8 := lv_room (by rw [xk_sum]; exact hst)
  have hpay := xk_kt_pay (y := z) hts hcd
  have hin : Cond.code (xk_N z) (xk_B z) (xk_L z) none ∈ xk_ws z := by rw [← hret]; exact List.mem_cons_self
  have hcd2 : Cond.code (xk_N z) (xk_B z) (xk_L z) none ∈ xk_kt := by rw [← hret]; exact hcd
  rcases hl with hl | ⟨host, hl⟩
  · exact xk_behind C0 hf hL (va_runI (bytes := xk_B z) (maxL := xk_L z) (n := np) (Ts := xk_kt) ⟨hx, hb, hml, hown, hts⟩ hM ⟨⟨rfl, rfl, hrm.1, hrm.2, hpay, hin, hts _ hcd2, hts _ hini, hy, hd3, hts _ hl⟩, hnm, hts _ hi⟩ hpv rfl (by rw [List.length_map]; exact has) hL.1 rfl hsum hd ⟨hc, hs⟩)
  · exact xk_behind C0 hf hL (va_runIN (bytes := xk_B z) (maxL := xk_L z) (n := np) (Ts := xk_kt) ⟨hx, hb, hml, hown, hts⟩ hM ⟨⟨⟨rfl, rfl, hrm.1, hrm.2, hpay, hin⟩, hts _ hcd2, hts _ hini, hy, hd3, va_Nw.use rfl (hKK.2.2.1 _ hl)⟩, hnm, hts _ hi⟩ hpv rfl (by rw [List.length_map]; exact has) hL.1 rfl hsum hd ⟨hc, hs⟩)
theorem xk_objInit {idx a : Nat} (hd : decode (xk_B y) pc = .ok (.invokespecial idx, 3)) (h1 : Cond.methodLink (xk_cls y) idx Lib.objectInit ∈ xk_kt) (h2 : Cond.instanceMethod Lib.objectInit ∈ xk_kt) (h3 : Cond.code Lib.objectInit ⟨#[0xb1]⟩ 1 none ∈ xk_kt) (hfr : 1 ≤ (xk_Rm y).frames) (hlo : st.length + 12 ≤ (xk_Rm y).locals)
    (K : xk_W E y (pc + 3) Lc st n m r ce sl Q) : xk_W E y pc Lc (.inr (some a) :: st) n m r ce sl Q := by
  intro p l e s mid args below meth c H locs ls C R hf hL
  obtain ⟨hx, hb, -, hml, hown, hts, -⟩ := id C
  refine W.objInit (rest := st.map (xk_v E)) hx hb hown (hts _ h1) (hts _ h2) (hts _ h3) rfl (by rw [hml]; exact hL.1) rfl hd hfr ?_ (K p l e s mid args below meth c H locs ls C R hf hL)
  have : (F0 mid pc ls ((Sum.inr (some a) :: st).map (xk_v E))).monitorRoom = 0 := rfl
  rw [this, xk_sum]
  omega
theorem xk_mmax {idx : Nat} {a b : Int32} (hd : decode (xk_B y) pc = .ok (.invokestatic idx, 3)) (h1 : Cond.methodLink (xk_cls y) idx Lib.Math.max.name ∈ xk_kt) (h2 : Cond.static Lib.Math.max.name ∈ xk_kt) (h3 : Cond.initialized "java/lang/Math" ∈ xk_kt) (h4 : Cond.code Lib.Math.max.name Lib.Math.max.code 2 (some .int) ∈ xk_kt) (hfr : 1 ≤ (xk_Rm y).frames) (hlo : st.length + 13 ≤ (xk_Rm y).locals) (hc : ce ≤ (xk_Rm y).cells) (hs : sl ≤ (xk_Rm y).slots)
    (K : xk_W E y (pc + 3) Lc (.inl (if a < b then b else a) :: st) n m r ce sl Q) : xk_W E y pc Lc (.inl b :: .inl a :: st) n m r ce sl Q := by
  intro p l e s mid args below meth c H locs ls C R hf hL
  obtain ⟨hx, hb, -, hml, hown, hts, -⟩ := id C
  exact va_mmax (rest := st.map (xk_v E)) hx hb (hml.trans hL.1.symm) hown (hts _ h1) (hts _ h2) (hts _ h3) (hts _ h4) hfr (by rw [xk_sum]; exact hlo) hc hs hd (K p l e s mid args below meth c H locs ls C R hf hL)
theorem xk_mmin {idx : Nat} {a b : Int32} (hd : decode (xk_B y) pc = .ok (.invokestatic idx, 3)) (h1 : Cond.methodLink (xk_cls y) idx Lib.Math.min.name ∈ xk_kt) (h2 : Cond.static Lib.Math.min.name ∈ xk_kt) (h3 : Cond.initialized "java/lang/Math" ∈ xk_kt) (h4 : Cond.code Lib.Math.min.name Lib.Math.min.code 2 (some .int) ∈ xk_kt) (hfr : 1 ≤ (xk_Rm y).frames) (hlo : st.length + 13 ≤ (xk_Rm y).locals) (hc : ce ≤ (xk_Rm y).cells) (hs : sl ≤ (xk_Rm y).slots)
    (K : xk_W E y (pc + 3) Lc (.inl (if b < a then b else a) :: st) n m r ce sl Q) : xk_W E y pc Lc (.inl b :: .inl a :: st) n m r ce sl Q := by
  intro p l e s mid args below meth c H locs ls C R hf hL
  obtain ⟨hx, hb, -, hml, hown, hts, -⟩ := id C
  exact va_mmin (rest := st.map (xk_v E)) hx hb (hml.trans hL.1.symm) hown (hts _ h1) (hts _ h2) (hts _ h3) (hts _ h4) hfr (by rw [xk_sum]; exact hlo) hc hs hd (K p l e s mid args below meth c H locs ls C R hf hL)
theorem xk_iret {v : Int32} (hy : y.1 = false) (hd : decode (xk_B y) pc = .ok (.ireturn, 1)) (hr : xk_ret y = some .int) (hc : ce ≤ (xk_Rm y).cells) (hs : sl ≤ (xk_Rm y).slots) (hq : Q (some (.inl v)) n m r) : xk_W E y pc Lc [.inl v] n m r ce sl Q := by
  intro p l e s mid args below meth c H locs ls C R hf hL
  have hlocks : meth.locks = false := C.2.2.2.2.2.2.1
  rw [xk_Fin_m hy]
  refine W.widen hc hs ?_
  exact W.iret (v := v) C.1 C.2.1 (C.2.2.1.trans hr) (fun t ht hW => ⟨some (.inl v), n, m, r, rfl, hq, by rw [ht]; exact R⟩) hf hd hlocks
theorem xk_zret {v : Int32} (hy : y.1 = false) (hd : decode (xk_B y) pc = .ok (.ireturn, 1)) (hr : xk_ret y = some .boolean) (hv : narrow .boolean (.int v) = .int v) (hc : ce ≤ (xk_Rm y).cells) (hs : sl ≤ (xk_Rm y).slots) (hq : Q (some (.inl v)) n m r) : xk_W E y pc Lc [.inl v] n m r ce sl Q := by
  intro p l e s mid args below meth c H locs ls C R hf hL
  have hlocks : meth.locks = false := C.2.2.2.2.2.2.1
  rw [xk_Fin_m hy]
  refine W.widen hc hs ?_
  exact W.zret (v := v) C.1 C.2.1 (C.2.2.1.trans hr) hv (fun t ht hW => ⟨some (.inl v), n, m, r, rfl, hq, by rw [ht]; exact R⟩) hf hd hlocks
theorem xk_aret {o : Option Nat} {D : String} (hy : y.1 = false) (hd : decode (xk_B y) pc = .ok (.areturn, 1)) (hr : xk_ret y = some (.object D)) (hc : ce ≤ (xk_Rm y).cells) (hs : sl ≤ (xk_Rm y).slots) (hq : Q (some (.inr o)) n m r) : xk_W E y pc Lc [.inr o] n m r ce sl Q := by
  intro p l e s mid args below meth c H locs ls C R hf hL
  have hlocks : meth.locks = false := C.2.2.2.2.2.2.1
  rw [xk_Fin_m hy]
  refine W.widen hc hs ?_
  exact W.aret (v := xk_v E (.inr o)) C.1 C.2.1 (C.2.2.1.trans hr) (Or.inl ⟨D, rfl⟩) (by cases o with | none => exact Or.inl rfl | some a => exact Or.inr ⟨_, rfl⟩) (fun t ht hW => ⟨some (.inr o), n, m, r, rfl, hq, by rw [ht]; exact R⟩) hf hd hlocks
theorem xk_vret (hy : y.1 = false) (hd : decode (xk_B y) pc = .ok (.return_, 1)) (hr : xk_ret y = none) (hc : ce ≤ (xk_Rm y).cells) (hs : sl ≤ (xk_Rm y).slots) (hq : Q none n m r) : xk_W E y pc Lc [] n m r ce sl Q := by
  intro p l e s mid args below meth c H locs ls C R hf hL
  have hlocks : meth.locks = false := C.2.2.2.2.2.2.1
  rw [xk_Fin_m hy]
  refine W.widen hc hs ?_
  exact W.vret C.1 C.2.1 (C.2.2.1.trans hr) (fun t ht hW => ⟨none, n, m, r, rfl, hq, by rw [ht]; exact R⟩) hf hd hlocks
end XC
end
section
/-! arraycopy, the script -/
def xk_cp (m : xk_M) (a b sp dp k : Nat) : xk_M := fun c j => if c = b ∧ dp ≤ j ∧ j < dp + k then m a (sp + (j - dp)) else m c j
section XD
variable {E : xk_E} {y : xk_Y} {pc n ce sl : Nat} {Lc : List (Option xk_V)} {st : List xk_V} {m : xk_M} {r : xk_P} {Q : xk_Q}
theorem xk_copyi {idx a b la lb sp dp k : Nat} {x1 x2 x3 : Int32} (hd : decode (xk_B y) pc = .ok (.invokestatic idx, 3)) (h1 : Cond.methodLink (xk_cls y) idx arraycopyName ∈ xk_kt) (h2 : Cond.native arraycopyName ∈ xk_kt) (h3 : Cond.static arraycopyName ∈ xk_kt) (h4 : Cond.initialized "java/lang/System" ∈ xk_kt)
    (hka : xk_kd a = .inr (0, la)) (hkb : xk_kd b = .inr (0, lb)) (ha : 1 ≤ a) (han : a < n) (hb1 : 1 ≤ b) (hbn : b < n) (e1 : x1 = nI sp) (e2 : x2 = nI dp) (e3 : x3 = nI k) (hla : sp + k ≤ la) (hlb : dp + k ≤ lb) (hla2 : la < 2 ^ 20) (hlb2 : lb < 2 ^ 20)
    (hfr : 1 ≤ (xk_Rm y).frames) (hlo : st.length + (nativeFrameWords "java/lang/System" "arraycopy" 5 + 11) ≤ (xk_Rm y).locals)
    (K : xk_W E y (pc + 3) Lc st n (xk_cp m a b sp dp k) r ce sl Q) : xk_W E y pc Lc (.inl x3 :: .inl x2 :: .inr (some b) :: .inl x1 :: .inr (some a) :: st) n m r ce sl Q := by
  intro p l e s mid args below meth c H locs ls C R hf hL
  subst e1; subst e2; subst e3
  obtain ⟨hx, hb, -, hml, hown, hts, -, -, ⟨hK, -⟩, -⟩ := id C
  have hc0 : H[xk_ad E a]? = some (arrV (E.2.1 0) la (fun j => .int (m a j))) := xk_arr R hka ha han
  have hc1 : H[xk_ad E b]? = some (arrV (E.2.1 0) lb (fun j => .int (m b j))) := xk_arr R hkb hb1 hbn
  obtain ⟨-, k0, hk0, cm0, hkk0⟩ := (hK.2 0 _ rfl).1 la (fun j => .int (m a j))
  obtain ⟨-, k1, hk1, cm1, hkk1⟩ := (hK.2 0 _ rfl).1 lb (fun j => .int (m b j))
  have s1 := nI_clamp (n := sp) (by omega)
  have s2 := nI_clamp (n := dp) (by omega)
  have s3 := nI_clamp (n := k) (by omega)
  have t1 := nI_toInt (n := sp) (by omega)
  have t2 := nI_toInt (n := dp) (by omega)
  have t3 := nI_toInt (n := k) (by omega)
  intro T hT X
  obtain ⟨vm', X', step⟩ := X.arraycopy hx hown (hts _ h1) (hts _ h2) (hts _ h3) (hts _ h4) (src := xk_ad E a) (dst := xk_ad E b) (cs := arrV (E.2.1 0) la (fun j => .int (m a j))) (cd := arrV (E.2.1 0) lb (fun j => .int (m b j))) (srcPos := nI sp) (destPos := nI dp) (n := nI k) (by rw [hT]; exact hc0) (by rw [hT]; exact hc1)
    (fun _ h => by cases h) (fun _ h => by cases h) (fun h => by cases h) (fun h => by cases h) hk0 hk1 hkk0 hkk1 (by rfl) (nI_pos (by omega)) (nI_pos (by omega)) (nI_pos (by omega))
    (by rw [t1, t3, arrV_size]; omega) (by rw [t2, t3, arrV_size]; omega)
    (fun vm₁ _ i hi => by
      rw [s3] at hi
      have e : (arrV (E.2.1 0) la (fun j => .int (m a j))).slots.getD ((nI sp).toNatClampNeg + i) .null = .int (m a (sp + i)) := by
        rw [s1, Array.getD_eq_getD_getElem?, arrV_read _ _ (by omega)]
        rfl
      rw [e]
      exact ⟨rfl, trivial⟩)
    (g := F0 mid pc ls (.int (nI k) :: .int (nI dp) :: .ref (xk_ad E b) :: .int (nI sp) :: .ref (xk_ad E a) :: st.map (xk_v E))) rfl (by rw [hml]; exact hL.1) (rest := st.map (xk_v E)) rfl (by rw [hb]; exact hd) hfr (by
      have : (F0 mid pc ls (.int (nI k) :: .int (nI dp) :: .ref (xk_ad E b) :: .int (nI sp) :: .ref (xk_ad E a) :: st.map (xk_v E))).monitorRoom = 0 := rfl
      rw [this, xk_sum]
      omega)
  have ec : copied (arrV (E.2.1 0) la (fun j => .int (m a j))) (arrV (E.2.1 0) lb (fun j => .int (m b j))) (nI sp) (nI dp) (nI k) = arrV (E.2.1 0) lb (fun j => .int (va_cpy (m a) (m b) (nI sp).toNatClampNeg (nI dp).toNatClampNeg (nI k).toNatClampNeg j)) := va_copied (fun z => Value.int z) (E.2.1 0) (E.2.1 0) (m a) (m b) (by rw [s1, s3]; exact hla)
  rw [ec, s1, s2, s3] at X' step
  have hl : xk_ad E b < H.size := (Array.getElem?_eq_some_iff.mp hc1).1
  have hheap : ((T.setVm vm').setCell (xk_ad E b) (arrV (E.2.1 0) lb (fun j => .int (va_cpy (m a) (m b) sp dp k j)))).heap = H.setIfInBounds (xk_ad E b) (arrV (E.2.1 0) lb (fun j => .int (va_cpy (m a) (m b) sp dp k j))) := by rw [← hT]; rfl
  have hm' : ∀ j, xk_cp m a b sp dp k b j = va_cpy (m a) (m b) sp dp k j := fun j => by
    unfold xk_cp va_cpy
    by_cases h : dp ≤ j ∧ j < dp + k
    · rw [if_pos ⟨rfl, h⟩, if_pos h]
    · rw [if_neg (fun q => h q.2), if_neg h]
  obtain ⟨t, a1, b1⟩ := K p l e s mid args below meth c _ (locs ++ ((arrV (E.2.1 0) la (fun j => .int (m a j))).stretch sp k).zipIdx.map (fun q => (⟨xk_ad E b, dp + q.2⟩ : Loc))) ls C (R.upd (m' := xk_cp m a b sp dp k) (r' := r) hb1 hbn (H' := H.setIfInBounds (xk_ad E b) (arrV (E.2.1 0) lb (fun j => .int (va_cpy (m a) (m b) sp dp k j)))) (by simp) (fun q hq => by simp [Array.getElem?_setIfInBounds, Ne.symm hq]) (fun c hc => by funext j; unfold xk_cp; rw [if_neg (fun q => hc q.1)]) (fun _ _ => rfl) (by
      unfold xk_cell
      rw [hkb]
      show (H.setIfInBounds (xk_ad E b) _)[xk_ad E b]? = _
      rw [Array.getElem?_setIfInBounds, if_pos rfl, if_pos hl]
      congr 2
      funext j
      show Value.int _ = Value.int (xk_cp m a b sp dp k b j)
      rw [hm'])) (fun q hq => by
      rcases List.mem_append.mp hq with h | h
      · exact hf q h
      · obtain ⟨z, -, hz⟩ := List.mem_map.mp h
        rw [← hz]
        exact xk_ad_fr hb1) hL _ hheap X'
  exact ⟨t, step t a1, b1⟩
theorem xk_sld {i : Nat} {j : Int32} (hd : decode (xk_B y) pc = .ok (.iaload, 1)) (hj : j = nI i) (hi : i < E.2.2.2.2.2.1) (hlen : E.2.2.2.2.2.1 < 2 ^ 31) (K : xk_W E y (pc + 1) Lc (.inl (E.2.2.2.2.2.2 i) :: st) n m r ce sl Q) : xk_W E y pc Lc (.inl j :: .inr (some 0) :: st) n m r ce sl Q := by
  intro p l e s mid args below meth c H locs ls C R hf hL
  subst hj
  have hc := nI_clamp (n := i) (by omega)
  obtain ⟨h2, h3, h4, h5⟩ := C.2.2.2.2.2.2.2.2.1.2.1
  exact W.iald (v := .int (E.2.2.2.2.2.2 i)) C.1 C.2.1 R.2.2.2.1.1 h2 h3 (by rw [h4]; exact nI_in hi hlen) (by rw [hc]; exact h5 i hi) rfl rfl hd (K p l e s mid args below meth c H locs ls C R hf hL)
theorem xk_slen (hd : decode (xk_B y) pc = .ok (.arraylength, 1)) (K : xk_W E y (pc + 1) Lc (.inl (nI E.2.2.2.2.2.1) :: st) n m r ce sl Q) : xk_W E y pc Lc (.inr (some 0) :: st) n m r ce sl Q := by
  intro p l e s mid args below meth c H locs ls C R hf hL
  obtain ⟨h2, h3, h4, h5⟩ := C.2.2.2.2.2.2.2.2.1.2.1
  exact W.alen (n := nI E.2.2.2.2.2.1) C.1 C.2.1 R.2.2.2.1.1 h2 (by rw [h4]; rfl) rfl rfl hd (K p l e s mid args below meth c H locs ls C R hf hL)
theorem xk_alen {a t len : Nat} (hd : decode (xk_B y) pc = .ok (.arraylength, 1)) (hk : xk_kd a = .inr (t, len)) (ht : t < 5) (ha : 1 ≤ a) (hn : a < n) (K : xk_W E y (pc + 1) Lc (.inl (nI len) :: st) n m r ce sl Q) : xk_W E y pc Lc (.inr (some a) :: st) n m r ce sl Q := by
  intro p l e s mid args below meth c H locs ls C R hf hL
  have e1 : (xk_tys E)[t]? = some (E.2.1 t, xk_aty t) := by
    rcases (by omega : t = 0 ∨ t = 1 ∨ t = 2 ∨ t = 3 ∨ t = 4) with rfl | rfl | rfl | rfl | rfl <;> rfl
  exact W.alen (n := nI len) C.1 C.2.1 (xk_arr R hk ha hn) ((C.2.2.2.2.2.2.2.2.1.1.2 t _ e1).1 len _) (by rw [arrV_size]; rfl) rfl rfl hd (K p l e s mid args below meth c H locs ls C R hf hL)
end XD
end
section
/-! the machine over natural numbers, and calls by the number of arguments -/
section XN
variable {E : xk_E} {y : xk_Y} {pc n ce sl : Nat} {Lc : List (Option xk_V)} {st : List xk_V} {m : xk_M} {r : xk_P} {Q : xk_Q}
theorem xk_iaddN {a b : Nat} (hd : decode (xk_B y) pc = .ok (.iadd, 1)) (K : xk_W E y (pc + 1) Lc (.inl (nI (a + b)) :: st) n m r ce sl Q) : xk_W E y pc Lc (.inl (nI b) :: .inl (nI a) :: st) n m r ce sl Q := xk_iadd hd (by rw [nI_add]; exact K)
theorem xk_isubN {a b : Nat} (hd : decode (xk_B y) pc = .ok (.isub, 1)) (h : b ≤ a) (K : xk_W E y (pc + 1) Lc (.inl (nI (a - b)) :: st) n m r ce sl Q) : xk_W E y pc Lc (.inl (nI b) :: .inl (nI a) :: st) n m r ce sl Q := xk_isub hd (by rw [pk_sub h]; exact K)
theorem xk_imulN {a b : Nat} (hd : decode (xk_B y) pc = .ok (.imul, 1)) (K : xk_W E y (pc + 1) Lc (.inl (nI (a * b)) :: st) n m r ce sl Q) : xk_W E y pc Lc (.inl (nI b) :: .inl (nI a) :: st) n m r ce sl Q := xk_imul hd (by rw [pk_mul]; exact K)
theorem xk_idivN {a b : Nat} (hd : decode (xk_B y) pc = .ok (.idiv, 1)) (h0 : 0 < b) (ha : a < 2 ^ 31) (hb : b < 2 ^ 31) (K : xk_W E y (pc + 1) Lc (.inl (nI (a / b)) :: st) n m r ce sl Q) : xk_W E y pc Lc (.inl (nI b) :: .inl (nI a) :: st) n m r ce sl Q := xk_idiv hd (nI_ne0 h0 hb) (by rw [pk_div ha h0 hb]; exact K)
theorem xk_iremN {a b : Nat} (hd : decode (xk_B y) pc = .ok (.irem, 1)) (h0 : 0 < b) (ha : a < 2 ^ 31) (hb : b < 2 ^ 31) (K : xk_W E y (pc + 1) Lc (.inl (nI (a % b)) :: st) n m r ce sl Q) : xk_W E y pc Lc (.inl (nI b) :: .inl (nI a) :: st) n m r ce sl Q := xk_irem hd (nI_ne0 h0 hb) (by rw [pk_rem ha h0 hb]; exact K)
theorem xk_iincN {k a d : Nat} (hd : decode (xk_B y) pc = .ok (.iinc k (d : Int), 3)) (hl : Lc[k]? = some (some (.inl (nI a)))) (K : xk_W E y (pc + 3) (Lc.set k (some (.inl (nI (a + d))))) st n m r ce sl Q) : xk_W E y pc Lc st n m r ce sl Q := xk_iinc hd hl (by rw [← nI_add]; rfl) K
theorem xk_iincM {k a : Nat} (hd : decode (xk_B y) pc = .ok (.iinc k (-1), 3)) (hl : Lc[k]? = some (some (.inl (nI (a + 1))))) (K : xk_W E y (pc + 3) (Lc.set k (some (.inl (nI a)))) st n m r ce sl Q) : xk_W E y pc Lc st n m r ce sl Q := xk_iinc hd hl (pk_m1 a) K
theorem xk_icmp_eqN {a b : Nat} {off : Int} {tgt : Nat} (hd : decode (xk_B y) pc = .ok (.if_icmp .eq off, 3)) (ht : (pc : Int) + off = (tgt : Int)) (ha : a < 2 ^ 31) (hb : b < 2 ^ 31) (kt : a = b → xk_W E y tgt Lc st n m r ce sl Q) (kf : ¬ a = b → xk_W E y (pc + 3) Lc st n m r ce sl Q) : xk_W E y pc Lc (.inl (nI b) :: .inl (nI a) :: st) n m r ce sl Q :=
  xk_icmp_eq hd ht (fun h => kt ((nI_eq ha hb).mp h)) (fun h => kf (fun q => h ((nI_eq ha hb).mpr q)))
theorem xk_icmp_neN {a b : Nat} {off : Int} {tgt : Nat} (hd : decode (xk_B y) pc = .ok (.if_icmp .ne off, 3)) (ht : (pc : Int) + off = (tgt : Int)) (ha : a < 2 ^ 31) (hb : b < 2 ^ 31) (kt : ¬ a = b → xk_W E y tgt Lc st n m r ce sl Q) (kf : a = b → xk_W E y (pc + 3) Lc st n m r ce sl Q) : xk_W E y pc Lc (.inl (nI b) :: .inl (nI a) :: st) n m r ce sl Q :=
  xk_icmp_ne hd ht (fun h => kt (fun q => h ((nI_eq ha hb).mpr q))) (fun h => kf ((nI_eq ha hb).mp h))
theorem xk_icmp_ltN {a b : Nat} {off : Int} {tgt : Nat} (hd : decode (xk_B y) pc = .ok (.if_icmp .lt off, 3)) (ht : (pc : Int) + off = (tgt : Int)) (ha : a < 2 ^ 31) (hb : b < 2 ^ 31) (kt : a < b → xk_W E y tgt Lc st n m r ce sl Q) (kf : b ≤ a → xk_W E y (pc + 3) Lc st n m r ce sl Q) : xk_W E y pc Lc (.inl (nI b) :: .inl (nI a) :: st) n m r ce sl Q :=
  xk_icmp_lt hd ht (fun h => kt ((nI_ltI ha hb).mp h)) (fun h => kf (Nat.le_of_not_lt (fun q => h ((nI_ltI ha hb).mpr q))))
theorem xk_icmp_geN {a b : Nat} {off : Int} {tgt : Nat} (hd : decode (xk_B y) pc = .ok (.if_icmp .ge off, 3)) (ht : (pc : Int) + off = (tgt : Int)) (ha : a < 2 ^ 31) (hb : b < 2 ^ 31) (kt : b ≤ a → xk_W E y tgt Lc st n m r ce sl Q) (kf : a < b → xk_W E y (pc + 3) Lc st n m r ce sl Q) : xk_W E y pc Lc (.inl (nI b) :: .inl (nI a) :: st) n m r ce sl Q :=
  xk_icmp_ge hd ht (fun h => kt ((nI_leI hb ha).mp h)) (fun h => kf (Nat.lt_of_not_le (fun q => h ((nI_leI hb ha).mpr q))))
theorem xk_icmp_gtN {a b : Nat} {off : Int} {tgt : Nat} (hd : decode (xk_B y) pc = .ok (.if_icmp .gt off, 3)) (ht : (pc : Int) + off = (tgt : Int)) (ha : a < 2 ^ 31) (hb : b < 2 ^ 31) (kt : b < a → xk_W E y tgt Lc st n m r ce sl Q) (kf : a ≤ b → xk_W E y (pc + 3) Lc st n m r ce sl Q) : xk_W E y pc Lc (.inl (nI b) :: .inl (nI a) :: st) n m r ce sl Q :=
  xk_icmp_gt hd ht (fun h => kt ((nI_ltI hb ha).mp h)) (fun h => kf (Nat.le_of_not_lt (fun q => h ((nI_ltI hb ha).mpr q))))
theorem xk_icmp_leN {a b : Nat} {off : Int} {tgt : Nat} (hd : decode (xk_B y) pc = .ok (.if_icmp .le off, 3)) (ht : (pc : Int) + off = (tgt : Int)) (ha : a < 2 ^ 31) (hb : b < 2 ^ 31) (kt : a ≤ b → xk_W E y tgt Lc st n m r ce sl Q) (kf : b < a → xk_W E y (pc + 3) Lc st n m r ce sl Q) : xk_W E y pc Lc (.inl (nI b) :: .inl (nI a) :: st) n m r ce sl Q :=
  xk_icmp_le hd ht (fun h => kt ((nI_leI ha hb).mp h)) (fun h => kf (Nat.lt_of_not_le (fun q => h ((nI_leI ha hb).mpr q))))
theorem xk_if_eqN {a : Nat} {off : Int} {tgt : Nat} (hd : decode (xk_B y) pc = .ok (.ifCond .eq off, 3)) (ht : (pc : Int) + off = (tgt : Int)) (ha : a < 2 ^ 31) (kt : a = 0 → xk_W E y tgt Lc st n m r ce sl Q) (kf : ¬ a = 0 → xk_W E y (pc + 3) Lc st n m r ce sl Q) : xk_W E y pc Lc (.inl (nI a) :: st) n m r ce sl Q :=
  xk_if_eq hd ht (fun h => kt ((nI_eq ha (by decide)).mp (h.trans nI_0.symm))) (fun h => kf (fun q => h (by rw [q]; exact nI_0)))
theorem xk_if_neN {a : Nat} {off : Int} {tgt : Nat} (hd : decode (xk_B y) pc = .ok (.ifCond .ne off, 3)) (ht : (pc : Int) + off = (tgt : Int)) (ha : a < 2 ^ 31) (kt : ¬ a = 0 → xk_W E y tgt Lc st n m r ce sl Q) (kf : a = 0 → xk_W E y (pc + 3) Lc st n m r ce sl Q) : xk_W E y pc Lc (.inl (nI a) :: st) n m r ce sl Q :=
  xk_if_ne hd ht (fun h => kt (fun q => h (by rw [q]; exact nI_0))) (fun h => kf ((nI_eq ha (by decide)).mp (h.trans nI_0.symm)))
theorem xk_if_leN {a : Nat} {off : Int} {tgt : Nat} (hd : decode (xk_B y) pc = .ok (.ifCond .le off, 3)) (ht : (pc : Int) + off = (tgt : Int)) (ha : a < 2 ^ 31) (kt : a = 0 → xk_W E y tgt Lc st n m r ce sl Q) (kf : 0 < a → xk_W E y (pc + 3) Lc st n m r ce sl Q) : xk_W E y pc Lc (.inl (nI a) :: st) n m r ce sl Q :=
  xk_if_le hd ht (fun h => kt (Nat.le_zero.mp ((nI_leI ha (by decide)).mp (by rw [nI_0]; exact h)))) (fun h => kf (Nat.pos_of_ne_zero (fun q => h (by rw [q, nI_0]; exact Int32.le_refl 0))))
theorem xk_if_gtN {a : Nat} {off : Int} {tgt : Nat} (hd : decode (xk_B y) pc = .ok (.ifCond .gt off, 3)) (ht : (pc : Int) + off = (tgt : Int)) (ha : a < 2 ^ 31) (kt : 0 < a → xk_W E y tgt Lc st n m r ce sl Q) (kf : a = 0 → xk_W E y (pc + 3) Lc st n m r ce sl Q) : xk_W E y pc Lc (.inl (nI a) :: st) n m r ce sl Q :=
  xk_if_gt hd ht (fun h => kt (Nat.pos_of_ne_zero (fun q => by rw [q, nI_0] at h; exact absurd h (by decide)))) (fun h => kf (Nat.eq_zero_of_not_pos (fun q => h (by rw [← nI_0]; exact nI_lt q ha))))
theorem xk_if_ltN {a : Nat} {off : Int} {tgt : Nat} (hd : decode (xk_B y) pc = .ok (.ifCond .lt off, 3)) (ht : (pc : Int) + off = (tgt : Int)) (ha : a < 2 ^ 31) (kf : xk_W E y (pc + 3) Lc st n m r ce sl Q) : xk_W E y pc Lc (.inl (nI a) :: st) n m r ce sl Q :=
  xk_if_lt hd ht (fun h => absurd h (nI_pos ha)) (fun _ => kf)
theorem xk_if_geN {a : Nat} {off : Int} {tgt : Nat} (hd : decode (xk_B y) pc = .ok (.ifCond .ge off, 3)) (ht : (pc : Int) + off = (tgt : Int)) (ha : a < 2 ^ 31) (kt : xk_W E y tgt Lc st n m r ce sl Q) : xk_W E y pc Lc (.inl (nI a) :: st) n m r ce sl Q :=
  xk_if_ge hd ht (fun _ => kt) (fun h => absurd (nI_pos' ha) h)
/-- a callee that makes no cell, by its words: its class number, its arguments -/
def xk_CV (z : xk_Y) (ci np : Nat) : Prop := xk_mok z np ∧ Cond.instanceMethod (xk_N z) ∈ xk_kt ∧ Cond.selects (xk_cls z) (xk_N z) (xk_N z) ∈ xk_kt ∧ (∃ q : vw_C, xk_cl[ci]? = some q ∧ q.1 = xk_cls z) ∧ np + 1 ≤ xk_L z
def xk_CS (z : xk_Y) (np : Nat) : Prop := xk_mok z np ∧ Cond.static (xk_N z) ∈ xk_kt ∧ np ≤ xk_L z
def xk_CI (z : xk_Y) (np : Nat) : Prop := xk_mok z np ∧ xk_ret z = none ∧ (xk_N z).name = "<init>" ∧ Cond.instanceMethod (xk_N z) ∈ xk_kt ∧ np + 1 ≤ xk_L z
/-- what goes on behind a call of a method that makes no cell -/
def xk_go (E : xk_E) (y : xk_Y) (pc : Nat) (Lc : List (Option xk_V)) (st : List xk_V) (ce sl : Nat) (Q : xk_Q) : xk_Q := fun v n' m' r' => xk_W E y pc Lc (v.toList ++ st) n' m' r' ce sl Q
theorem xk_cV {z : xk_Y} {idx np ci a : Nat} {as : List xk_V} (hd : decode (xk_B y) pc = .ok (.invokevirtual idx, 3)) (hl : xk_ML (xk_cls y) idx z) (hz : xk_CV z ci np) (h0 : (xk_Rm z).cells = 0 ∧ (xk_Rm z).slots = 0) (hroom : xk_room y z = true)
    (hk : xk_kd a = .inl ci) (ha : 1 ≤ a) (hn : a < n) (has : as.length = np) (hst : st.length ≤ 8) (hc : ce ≤ (xk_Rm y).cells ∧ sl ≤ (xk_Rm y).slots)
    (B : xk_W E z 0 (xk_ent z (.inr (some a) :: as)) [] n m r 0 0 (xk_go E y (pc + 3) Lc st ce sl Q)) : xk_W E y pc Lc (as.reverse ++ .inr (some a) :: st) n m r ce sl Q := by
  obtain ⟨z1, z2, z3, ⟨q, z4, z5⟩, z6⟩ := hz
  refine xk_callV hd hl z1 z2 z3 hroom hk z4 z5 ha hn has z6 hst (by rw [h0.1]; exact hc.1) (by rw [h0.2]; exact hc.2) ?_
  rw [h0.1, h0.2]
  exact B
theorem xk_cS {z : xk_Y} {idx np : Nat} {as : List xk_V} (hd : decode (xk_B y) pc = .ok (.invokestatic idx, 3)) (hl : xk_ML (xk_cls y) idx z) (hz : xk_CS z np) (h0 : (xk_Rm z).cells = 0 ∧ (xk_Rm z).slots = 0) (hroom : xk_room y z = true)
    (has : as.length = np) (hst : st.length ≤ 8) (hc : ce ≤ (xk_Rm y).cells ∧ sl ≤ (xk_Rm y).slots)
    (B : xk_W E z 0 (xk_ent z as) [] n m r 0 0 (xk_go E y (pc + 3) Lc st ce sl Q)) : xk_W E y pc Lc (as.reverse ++ st) n m r ce sl Q := by
  obtain ⟨z1, z2, z3⟩ := hz
  refine xk_callS hd hl z1 z2 hroom has z3 hst (by rw [h0.1]; exact hc.1) (by rw [h0.2]; exact hc.2) ?_
  rw [h0.1, h0.2]
  exact B
theorem xk_cV0 {z : xk_Y} {idx ci a : Nat} (hd : decode (xk_B y) pc = .ok (.invokevirtual idx, 3)) (hl : xk_ML (xk_cls y) idx z) (hz : xk_CV z ci 0) (h0 : (xk_Rm z).cells = 0 ∧ (xk_Rm z).slots = 0) (hroom : xk_room y z = true) (hk : xk_kd a = .inl ci) (ha : 1 ≤ a) (hn : a < n) (hst : st.length ≤ 8) (hc : ce ≤ (xk_Rm y).cells ∧ sl ≤ (xk_Rm y).slots)
    (B : xk_W E z 0 (xk_ent z (.inr (some a) :: [])) [] n m r 0 0 (xk_go E y (pc + 3) Lc st ce sl Q)) : xk_W E y pc Lc (.inr (some a) :: st) n m r ce sl Q := xk_cV (as := []) hd hl hz h0 hroom hk ha hn rfl hst hc B
theorem xk_cV1 {v1 : xk_V} {z : xk_Y} {idx ci a : Nat} (hd : decode (xk_B y) pc = .ok (.invokevirtual idx, 3)) (hl : xk_ML (xk_cls y) idx z) (hz : xk_CV z ci 1) (h0 : (xk_Rm z).cells = 0 ∧ (xk_Rm z).slots = 0) (hroom : xk_room y z = true) (hk : xk_kd a = .inl ci) (ha : 1 ≤ a) (hn : a < n) (hst : st.length ≤ 8) (hc : ce ≤ (xk_Rm y).cells ∧ sl ≤ (xk_Rm y).slots)
    (B : xk_W E z 0 (xk_ent z (.inr (some a) :: [v1])) [] n m r 0 0 (xk_go E y (pc + 3) Lc st ce sl Q)) : xk_W E y pc Lc (v1 :: .inr (some a) :: st) n m r ce sl Q := xk_cV (as := [v1]) hd hl hz h0 hroom hk ha hn rfl hst hc B
theorem xk_cV2 {v1 v2 : xk_V} {z : xk_Y} {idx ci a : Nat} (hd : decode (xk_B y) pc = .ok (.invokevirtual idx, 3)) (hl : xk_ML (xk_cls y) idx z) (hz : xk_CV z ci 2) (h0 : (xk_Rm z).cells = 0 ∧ (xk_Rm z).slots = 0) (hroom : xk_room y z = true) (hk : xk_kd a = .inl ci) (ha : 1 ≤ a) (hn : a < n) (hst : st.length ≤ 8) (hc : ce ≤ (xk_Rm y).cells ∧ sl ≤ (xk_Rm y).slots)
    (B : xk_W E z 0 (xk_ent z (.inr (some a) :: [v1, v2])) [] n m r 0 0 (xk_go E y (pc + 3) Lc st ce sl Q)) : xk_W E y pc Lc (v2 :: v1 :: .inr (some a) :: st) n m r ce sl Q := xk_cV (as := [v1, v2]) hd hl hz h0 hroom hk ha hn rfl hst hc B
theorem xk_cV3 {v1 v2 v3 : xk_V} {z : xk_Y} {idx ci a : Nat} (hd : decode (xk_B y) pc = .ok (.invokevirtual idx, 3)) (hl : xk_ML (xk_cls y) idx z) (hz : xk_CV z ci 3) (h0 : (xk_Rm z).cells = 0 ∧ (xk_Rm z).slots = 0) (hroom : xk_room y z = true) (hk : xk_kd a = .inl ci) (ha : 1 ≤ a) (hn : a < n) (hst : st.length ≤ 8) (hc : ce ≤ (xk_Rm y).cells ∧ sl ≤ (xk_Rm y).slots)
    (B : xk_W E z 0 (xk_ent z (.inr (some a) :: [v1, v2, v3])) [] n m r 0 0 (xk_go E y (pc + 3) Lc st ce sl Q)) : xk_W E y pc Lc (v3 :: v2 :: v1 :: .inr (some a) :: st) n m r ce sl Q := xk_cV (as := [v1, v2, v3]) hd hl hz h0 hroom hk ha hn rfl hst hc B
theorem xk_cV4 {v1 v2 v3 v4 : xk_V} {z : xk_Y} {idx ci a : Nat} (hd : decode (xk_B y) pc = .ok (.invokevirtual idx, 3)) (hl : xk_ML (xk_cls y) idx z) (hz : xk_CV z ci 4) (h0 : (xk_Rm z).cells = 0 ∧ (xk_Rm z).slots = 0) (hroom : xk_room y z = true) (hk : xk_kd a = .inl ci) (ha : 1 ≤ a) (hn : a < n) (hst : st.length ≤ 8) (hc : ce ≤ (xk_Rm y).cells ∧ sl ≤ (xk_Rm y).slots)
    (B : xk_W E z 0 (xk_ent z (.inr (some a) :: [v1, v2, v3, v4])) [] n m r 0 0 (xk_go E y (pc + 3) Lc st ce sl Q)) : xk_W E y pc Lc (v4 :: v3 :: v2 :: v1 :: .inr (some a) :: st) n m r ce sl Q := xk_cV (as := [v1, v2, v3, v4]) hd hl hz h0 hroom hk ha hn rfl hst hc B
theorem xk_cS1 {v1 : xk_V} {z : xk_Y} {idx : Nat} (hd : decode (xk_B y) pc = .ok (.invokestatic idx, 3)) (hl : xk_ML (xk_cls y) idx z) (hz : xk_CS z 1) (h0 : (xk_Rm z).cells = 0 ∧ (xk_Rm z).slots = 0) (hroom : xk_room y z = true) (hst : st.length ≤ 8) (hc : ce ≤ (xk_Rm y).cells ∧ sl ≤ (xk_Rm y).slots)
    (B : xk_W E z 0 (xk_ent z [v1]) [] n m r 0 0 (xk_go E y (pc + 3) Lc st ce sl Q)) : xk_W E y pc Lc (v1 :: st) n m r ce sl Q := xk_cS (as := [v1]) hd hl hz h0 hroom rfl hst hc B
theorem xk_cS2 {v1 v2 : xk_V} {z : xk_Y} {idx : Nat} (hd : decode (xk_B y) pc = .ok (.invokestatic idx, 3)) (hl : xk_ML (xk_cls y) idx z) (hz : xk_CS z 2) (h0 : (xk_Rm z).cells = 0 ∧ (xk_Rm z).slots = 0) (hroom : xk_room y z = true) (hst : st.length ≤ 8) (hc : ce ≤ (xk_Rm y).cells ∧ sl ≤ (xk_Rm y).slots)
    (B : xk_W E z 0 (xk_ent z [v1, v2]) [] n m r 0 0 (xk_go E y (pc + 3) Lc st ce sl Q)) : xk_W E y pc Lc (v2 :: v1 :: st) n m r ce sl Q := xk_cS (as := [v1, v2]) hd hl hz h0 hroom rfl hst hc B
theorem xk_cS3 {v1 v2 v3 : xk_V} {z : xk_Y} {idx : Nat} (hd : decode (xk_B y) pc = .ok (.invokestatic idx, 3)) (hl : xk_ML (xk_cls y) idx z) (hz : xk_CS z 3) (h0 : (xk_Rm z).cells = 0 ∧ (xk_Rm z).slots = 0) (hroom : xk_room y z = true) (hst : st.length ≤ 8) (hc : ce ≤ (xk_Rm y).cells ∧ sl ≤ (xk_Rm y).slots)
    (B : xk_W E z 0 (xk_ent z [v1, v2, v3]) [] n m r 0 0 (xk_go E y (pc + 3) Lc st ce sl Q)) : xk_W E y pc Lc (v3 :: v2 :: v1 :: st) n m r ce sl Q := xk_cS (as := [v1, v2, v3]) hd hl hz h0 hroom rfl hst hc B
theorem xk_cS4 {v1 v2 v3 v4 : xk_V} {z : xk_Y} {idx : Nat} (hd : decode (xk_B y) pc = .ok (.invokestatic idx, 3)) (hl : xk_ML (xk_cls y) idx z) (hz : xk_CS z 4) (h0 : (xk_Rm z).cells = 0 ∧ (xk_Rm z).slots = 0) (hroom : xk_room y z = true) (hst : st.length ≤ 8) (hc : ce ≤ (xk_Rm y).cells ∧ sl ≤ (xk_Rm y).slots)
    (B : xk_W E z 0 (xk_ent z [v1, v2, v3, v4]) [] n m r 0 0 (xk_go E y (pc + 3) Lc st ce sl Q)) : xk_W E y pc Lc (v4 :: v3 :: v2 :: v1 :: st) n m r ce sl Q := xk_cS (as := [v1, v2, v3, v4]) hd hl hz h0 hroom rfl hst hc B
theorem xk_getRo {idx ci k a : Nat} {o : Option Nat} (hd : decode (xk_B y) pc = .ok (.getfield idx, 3)) (hl : xk_FL (xk_cls y) idx ci k) (hk : xk_kd a = .inl ci) (hr : xk_rf ci k = true) (ha : 1 ≤ a) (hn : a < n) (ho : r a k = o) (K : xk_W E y (pc + 3) Lc (.inr o :: st) n m r ce sl Q) : xk_W E y pc Lc (.inr (some a) :: st) n m r ce sl Q := xk_getR hd hl hk hr ha hn (by rw [ho]; exact K)
theorem xk_getIo {idx ci k a : Nat} {x : Int32} (hd : decode (xk_B y) pc = .ok (.getfield idx, 3)) (hl : xk_FL (xk_cls y) idx ci k) (hk : xk_kd a = .inl ci) (hr : xk_rf ci k = false) (ha : 1 ≤ a) (hn : a < n) (ho : m a k = x) (K : xk_W E y (pc + 3) Lc (.inl x :: st) n m r ce sl Q) : xk_W E y pc Lc (.inr (some a) :: st) n m r ce sl Q := xk_getI hd hl hk hr ha hn (by rw [ho]; exact K)
theorem xk_ialoado {a len i : Nat} {j x : Int32} (hd : decode (xk_B y) pc = .ok (.iaload, 1)) (hk : xk_kd a = .inr (0, len)) (ha : 1 ≤ a) (hn : a < n) (hj : j = nI i) (hi : i < len) (hlen : len < 2 ^ 31) (ho : m a i = x) (K : xk_W E y (pc + 1) Lc (.inl x :: st) n m r ce sl Q) : xk_W E y pc Lc (.inl j :: .inr (some a) :: st) n m r ce sl Q := xk_iaload hd hk ha hn hj hi hlen (by rw [ho]; exact K)
theorem xk_baloado {a len i : Nat} {j x : Int32} (hd : decode (xk_B y) pc = .ok (.baload, 1)) (hk : xk_kd a = .inr (1, len)) (ha : 1 ≤ a) (hn : a < n) (hj : j = nI i) (hi : i < len) (hlen : len < 2 ^ 31) (ho : m a i = x) (K : xk_W E y (pc + 1) Lc (.inl x :: st) n m r ce sl Q) : xk_W E y pc Lc (.inl j :: .inr (some a) :: st) n m r ce sl Q := xk_baload hd hk ha hn hj hi hlen (by rw [ho]; exact K)
theorem xk_aaloado {a t len i : Nat} {j : Int32} {o : Option Nat} (hd : decode (xk_B y) pc = .ok (.aaload, 1)) (hk : xk_kd a = .inr (t, len)) (h2 : 2 ≤ t) (h5 : t < 5) (ha : 1 ≤ a) (hn : a < n) (hj : j = nI i) (hi : i < len) (hlen : len < 2 ^ 31) (ho : r a i = o) (K : xk_W E y (pc + 1) Lc (.inr o :: st) n m r ce sl Q) : xk_W E y pc Lc (.inl j :: .inr (some a) :: st) n m r ce sl Q := xk_aaload hd hk h2 h5 ha hn hj hi hlen (by rw [ho]; exact K)
end XN
end
section
/-! links, by program -/
theorem fl_K_10 : xk_FL "SandKernel" 10 6 0 := ⟨_, rfl, by decide, Or.inl (xk_in (List.mem_of_getElem? (i := 186) (by decide +kernel)) rfl)⟩
theorem fl_K_21 : xk_FL "SandKernel" 21 6 1 := ⟨_, rfl, by decide, Or.inl (xk_in (List.mem_of_getElem? (i := 187) (by decide +kernel)) rfl)⟩
theorem fl_K_25 : xk_FL "SandKernel" 25 6 2 := ⟨_, rfl, by decide, Or.inl (xk_in (List.mem_of_getElem? (i := 188) (by decide +kernel)) rfl)⟩
theorem fl_K_37 : xk_FL "SandKernel" 37 6 3 := ⟨_, rfl, by decide, Or.inl (xk_in (List.mem_of_getElem? (i := 189) (by decide +kernel)) rfl)⟩
theorem fl_K_44 : xk_FL "SandKernel" 44 6 4 := ⟨_, rfl, by decide, Or.inl (xk_in (List.mem_of_getElem? (i := 190) (by decide +kernel)) rfl)⟩
theorem fl_K_116 : xk_FL "SandKernel" 116 3 4 := ⟨_, rfl, by decide, Or.inr ⟨"SandKernel", List.mem_of_getElem? (i := 10) (by decide +kernel)⟩⟩
theorem fl_K_135 : xk_FL "SandKernel" 135 3 2 := ⟨_, rfl, by decide, Or.inr ⟨"SandKernel", List.mem_of_getElem? (i := 8) (by decide +kernel)⟩⟩
theorem fl_K_142 : xk_FL "SandKernel" 142 3 3 := ⟨_, rfl, by decide, Or.inr ⟨"SandKernel", List.mem_of_getElem? (i := 9) (by decide +kernel)⟩⟩
theorem fl_K_170 : xk_FL "SandKernel" 170 5 1 := ⟨_, rfl, by decide, Or.inr ⟨"SandKernel", List.mem_of_getElem? (i := 12) (by decide +kernel)⟩⟩
theorem fl_K_173 : xk_FL "SandKernel" 173 5 0 := ⟨_, rfl, by decide, Or.inr ⟨"SandKernel", List.mem_of_getElem? (i := 11) (by decide +kernel)⟩⟩
theorem fl_K_179 : xk_FL "SandKernel" 179 5 2 := ⟨_, rfl, by decide, Or.inr ⟨"SandKernel", List.mem_of_getElem? (i := 13) (by decide +kernel)⟩⟩
theorem fl_K_224 : xk_FL "SandKernel" 224 5 3 := ⟨_, rfl, by decide, Or.inr ⟨"SandKernel", List.mem_of_getElem? (i := 14) (by decide +kernel)⟩⟩
theorem fl_K_230 : xk_FL "SandKernel" 230 3 0 := ⟨_, rfl, by decide, Or.inr ⟨"SandKernel", List.mem_of_getElem? (i := 7) (by decide +kernel)⟩⟩
theorem fl_K_243 : xk_FL "SandKernel" 243 0 3 := ⟨_, rfl, by decide, Or.inr ⟨"SandKernel", List.mem_of_getElem? (i := 5) (by decide +kernel)⟩⟩
theorem fl_K_246 : xk_FL "SandKernel" 246 0 2 := ⟨_, rfl, by decide, Or.inr ⟨"SandKernel", List.mem_of_getElem? (i := 3) (by decide +kernel)⟩⟩
theorem fl_Block_9 : xk_FL "SandKernel$Block" 9 0 0 := ⟨_, rfl, by decide, Or.inl (xk_in (List.mem_of_getElem? (i := 94) (by decide +kernel)) rfl)⟩
theorem fl_Block_15 : xk_FL "SandKernel$Block" 15 0 1 := ⟨_, rfl, by decide, Or.inl (xk_in (List.mem_of_getElem? (i := 96) (by decide +kernel)) rfl)⟩
theorem fl_Block_18 : xk_FL "SandKernel$Block" 18 0 2 := ⟨_, rfl, by decide, Or.inl (xk_in (List.mem_of_getElem? (i := 98) (by decide +kernel)) rfl)⟩
theorem fl_Block_22 : xk_FL "SandKernel$Block" 22 0 3 := ⟨_, rfl, by decide, Or.inl (xk_in (List.mem_of_getElem? (i := 101) (by decide +kernel)) rfl)⟩
theorem fl_Cache_9 : xk_FL "SandKernel$Cache" 9 1 1 := ⟨_, rfl, by decide, Or.inl (xk_in (List.mem_of_getElem? (i := 114) (by decide +kernel)) rfl)⟩
theorem fl_Cache_17 : xk_FL "SandKernel$Cache" 17 1 2 := ⟨_, rfl, by decide, Or.inl (xk_in (List.mem_of_getElem? (i := 115) (by decide +kernel)) rfl)⟩
theorem fl_Cache_21 : xk_FL "SandKernel$Cache" 21 1 3 := ⟨_, rfl, by decide, Or.inl (xk_in (List.mem_of_getElem? (i := 116) (by decide +kernel)) rfl)⟩
theorem fl_Cache_25 : xk_FL "SandKernel$Cache" 25 1 0 := ⟨_, rfl, by decide, Or.inl (xk_in (List.mem_of_getElem? (i := 113) (by decide +kernel)) rfl)⟩
theorem fl_Cache_30 : xk_FL "SandKernel$Cache" 30 0 0 := ⟨_, rfl, by decide, Or.inr ⟨"SandKernel", List.mem_of_getElem? (i := 0) (by decide +kernel)⟩⟩
theorem fl_Cache_33 : xk_FL "SandKernel$Cache" 33 0 2 := ⟨_, rfl, by decide, Or.inr ⟨"SandKernel", List.mem_of_getElem? (i := 2) (by decide +kernel)⟩⟩
theorem fl_Cache_62 : xk_FL "SandKernel$Cache" 62 0 3 := ⟨_, rfl, by decide, Or.inr ⟨"SandKernel", List.mem_of_getElem? (i := 4) (by decide +kernel)⟩⟩
theorem fl_Cache_75 : xk_FL "SandKernel$Cache" 75 0 1 := ⟨_, rfl, by decide, Or.inr ⟨"SandKernel", List.mem_of_getElem? (i := 1) (by decide +kernel)⟩⟩
theorem fl_Host_9 : xk_FL "SandKernel$Host" 9 2 0 := ⟨_, rfl, by decide, Or.inl (xk_in (List.mem_of_getElem? (i := 60) (by decide +kernel)) rfl)⟩
theorem fl_Host_15 : xk_FL "SandKernel$Host" 15 2 1 := ⟨_, rfl, by decide, Or.inl (xk_in (List.mem_of_getElem? (i := 61) (by decide +kernel)) rfl)⟩
theorem fl_Host_19 : xk_FL "SandKernel$Host" 19 2 2 := ⟨_, rfl, by decide, Or.inl (xk_in (List.mem_of_getElem? (i := 62) (by decide +kernel)) rfl)⟩
theorem fl_Host_22 : xk_FL "SandKernel$Host" 22 2 3 := ⟨_, rfl, by decide, Or.inl (xk_in (List.mem_of_getElem? (i := 63) (by decide +kernel)) rfl)⟩
theorem fl_Host_25 : xk_FL "SandKernel$Host" 25 2 4 := ⟨_, rfl, by decide, Or.inl (xk_in (List.mem_of_getElem? (i := 64) (by decide +kernel)) rfl)⟩
theorem fl_Host_29 : xk_FL "SandKernel$Host" 29 2 5 := ⟨_, rfl, by decide, Or.inl (xk_in (List.mem_of_getElem? (i := 65) (by decide +kernel)) rfl)⟩
theorem fl_Opening_9 : xk_FL "SandKernel$Opening" 9 3 0 := ⟨_, rfl, by decide, Or.inl (xk_in (List.mem_of_getElem? (i := 136) (by decide +kernel)) rfl)⟩
theorem fl_Opening_15 : xk_FL "SandKernel$Opening" 15 3 1 := ⟨_, rfl, by decide, Or.inl (xk_in (List.mem_of_getElem? (i := 139) (by decide +kernel)) rfl)⟩
theorem fl_Opening_18 : xk_FL "SandKernel$Opening" 18 3 2 := ⟨_, rfl, by decide, Or.inl (xk_in (List.mem_of_getElem? (i := 140) (by decide +kernel)) rfl)⟩
theorem fl_Opening_21 : xk_FL "SandKernel$Opening" 21 3 3 := ⟨_, rfl, by decide, Or.inl (xk_in (List.mem_of_getElem? (i := 142) (by decide +kernel)) rfl)⟩
theorem fl_Opening_24 : xk_FL "SandKernel$Opening" 24 3 4 := ⟨_, rfl, by decide, Or.inl (xk_in (List.mem_of_getElem? (i := 144) (by decide +kernel)) rfl)⟩
theorem fl_Opening_36 : xk_FL "SandKernel$Opening" 36 4 3 := ⟨_, rfl, by decide, Or.inr ⟨"SandKernel", List.mem_of_getElem? (i := 15) (by decide +kernel)⟩⟩
theorem fl_Opening_42 : xk_FL "SandKernel$Opening" 42 4 4 := ⟨_, rfl, by decide, Or.inr ⟨"SandKernel", List.mem_of_getElem? (i := 16) (by decide +kernel)⟩⟩
theorem fl_Pipe_9 : xk_FL "SandKernel$Pipe" 9 4 0 := ⟨_, rfl, by decide, Or.inl (xk_in (List.mem_of_getElem? (i := 309) (by decide +kernel)) rfl)⟩
theorem fl_Pipe_15 : xk_FL "SandKernel$Pipe" 15 4 1 := ⟨_, rfl, by decide, Or.inl (xk_in (List.mem_of_getElem? (i := 310) (by decide +kernel)) rfl)⟩
theorem fl_Pipe_19 : xk_FL "SandKernel$Pipe" 19 4 2 := ⟨_, rfl, by decide, Or.inl (xk_in (List.mem_of_getElem? (i := 311) (by decide +kernel)) rfl)⟩
theorem fl_Pipe_22 : xk_FL "SandKernel$Pipe" 22 4 3 := ⟨_, rfl, by decide, Or.inl (xk_in (List.mem_of_getElem? (i := 312) (by decide +kernel)) rfl)⟩
theorem fl_Pipe_26 : xk_FL "SandKernel$Pipe" 26 4 4 := ⟨_, rfl, by decide, Or.inl (xk_in (List.mem_of_getElem? (i := 314) (by decide +kernel)) rfl)⟩
theorem fl_Task_11 : xk_FL "SandKernel$Task" 11 5 0 := ⟨_, rfl, by decide, Or.inl (xk_in (List.mem_of_getElem? (i := 165) (by decide +kernel)) rfl)⟩
theorem fl_Task_15 : xk_FL "SandKernel$Task" 15 5 1 := ⟨_, rfl, by decide, Or.inl (xk_in (List.mem_of_getElem? (i := 167) (by decide +kernel)) rfl)⟩
theorem fl_Task_18 : xk_FL "SandKernel$Task" 18 5 2 := ⟨_, rfl, by decide, Or.inl (xk_in (List.mem_of_getElem? (i := 169) (by decide +kernel)) rfl)⟩
theorem fl_Task_23 : xk_FL "SandKernel$Task" 23 5 3 := ⟨_, rfl, by decide, Or.inl (xk_in (List.mem_of_getElem? (i := 171) (by decide +kernel)) rfl)⟩
theorem fl_Task_30 : xk_FL "SandKernel$Task" 30 3 0 := ⟨_, rfl, by decide, Or.inr ⟨"SandKernel", List.mem_of_getElem? (i := 6) (by decide +kernel)⟩⟩
theorem fl_M_7 : xk_FL "SandKernelModel" 7 7 0 := ⟨_, rfl, by decide, Or.inl (xk_in (List.mem_of_getElem? (i := 573) (by decide +kernel)) rfl)⟩
theorem fl_M_13 : xk_FL "SandKernelModel" 13 7 1 := ⟨_, rfl, by decide, Or.inl (xk_in (List.mem_of_getElem? (i := 574) (by decide +kernel)) rfl)⟩
theorem fl_M_17 : xk_FL "SandKernelModel" 17 7 2 := ⟨_, rfl, by decide, Or.inl (xk_in (List.mem_of_getElem? (i := 575) (by decide +kernel)) rfl)⟩
theorem fl_M_20 : xk_FL "SandKernelModel" 20 7 3 := ⟨_, rfl, by decide, Or.inl (xk_in (List.mem_of_getElem? (i := 576) (by decide +kernel)) rfl)⟩
theorem fl_M_23 : xk_FL "SandKernelModel" 23 7 4 := ⟨_, rfl, by decide, Or.inl (xk_in (List.mem_of_getElem? (i := 577) (by decide +kernel)) rfl)⟩
theorem fl_M_26 : xk_FL "SandKernelModel" 26 7 5 := ⟨_, rfl, by decide, Or.inl (xk_in (List.mem_of_getElem? (i := 578) (by decide +kernel)) rfl)⟩
theorem fl_M_29 : xk_FL "SandKernelModel" 29 7 6 := ⟨_, rfl, by decide, Or.inl (xk_in (List.mem_of_getElem? (i := 579) (by decide +kernel)) rfl)⟩
theorem fl_M_32 : xk_FL "SandKernelModel" 32 7 7 := ⟨_, rfl, by decide, Or.inl (xk_in (List.mem_of_getElem? (i := 580) (by decide +kernel)) rfl)⟩
theorem fl_M_35 : xk_FL "SandKernelModel" 35 7 9 := ⟨_, rfl, by decide, Or.inl (xk_in (List.mem_of_getElem? (i := 582) (by decide +kernel)) rfl)⟩
theorem fl_M_38 : xk_FL "SandKernelModel" 38 7 10 := ⟨_, rfl, by decide, Or.inl (xk_in (List.mem_of_getElem? (i := 583) (by decide +kernel)) rfl)⟩
theorem fl_M_41 : xk_FL "SandKernelModel" 41 7 11 := ⟨_, rfl, by decide, Or.inl (xk_in (List.mem_of_getElem? (i := 584) (by decide +kernel)) rfl)⟩
theorem fl_M_44 : xk_FL "SandKernelModel" 44 7 12 := ⟨_, rfl, by decide, Or.inl (xk_in (List.mem_of_getElem? (i := 585) (by decide +kernel)) rfl)⟩
theorem fl_M_47 : xk_FL "SandKernelModel" 47 7 13 := ⟨_, rfl, by decide, Or.inl (xk_in (List.mem_of_getElem? (i := 586) (by decide +kernel)) rfl)⟩
theorem fl_M_50 : xk_FL "SandKernelModel" 50 7 14 := ⟨_, rfl, by decide, Or.inl (xk_in (List.mem_of_getElem? (i := 587) (by decide +kernel)) rfl)⟩
theorem fl_M_53 : xk_FL "SandKernelModel" 53 7 15 := ⟨_, rfl, by decide, Or.inl (xk_in (List.mem_of_getElem? (i := 588) (by decide +kernel)) rfl)⟩
theorem fl_M_56 : xk_FL "SandKernelModel" 56 7 16 := ⟨_, rfl, by decide, Or.inl (xk_in (List.mem_of_getElem? (i := 589) (by decide +kernel)) rfl)⟩
theorem fl_M_59 : xk_FL "SandKernelModel" 59 7 17 := ⟨_, rfl, by decide, Or.inl (xk_in (List.mem_of_getElem? (i := 590) (by decide +kernel)) rfl)⟩
theorem fl_M_62 : xk_FL "SandKernelModel" 62 7 18 := ⟨_, rfl, by decide, Or.inl (xk_in (List.mem_of_getElem? (i := 591) (by decide +kernel)) rfl)⟩
theorem fl_M_65 : xk_FL "SandKernelModel" 65 7 19 := ⟨_, rfl, by decide, Or.inl (xk_in (List.mem_of_getElem? (i := 592) (by decide +kernel)) rfl)⟩
theorem fl_M_68 : xk_FL "SandKernelModel" 68 7 22 := ⟨_, rfl, by decide, Or.inl (xk_in (List.mem_of_getElem? (i := 595) (by decide +kernel)) rfl)⟩
theorem fl_M_74 : xk_FL "SandKernelModel" 74 7 8 := ⟨_, rfl, by decide, Or.inl (xk_in (List.mem_of_getElem? (i := 581) (by decide +kernel)) rfl)⟩
theorem fl_M_89 : xk_FL "SandKernelModel" 89 7 20 := ⟨_, rfl, by decide, Or.inl (xk_in (List.mem_of_getElem? (i := 593) (by decide +kernel)) rfl)⟩
theorem fl_M_92 : xk_FL "SandKernelModel" 92 7 21 := ⟨_, rfl, by decide, Or.inl (xk_in (List.mem_of_getElem? (i := 594) (by decide +kernel)) rfl)⟩
theorem ml_K_9 : xk_ML "SandKernel" 9 m_Host_init := Or.inr ⟨"SandKernel", List.mem_of_getElem? (i := 17) (by decide +kernel)⟩
theorem ml_K_18 : xk_ML "SandKernel" 18 m_Cache_init := Or.inl (xk_in (List.mem_of_getElem? (i := 83) (by decide +kernel)) rfl)
theorem ml_K_29 : xk_ML "SandKernel" 29 m_Arr_fill2 := Or.inl (xk_in (List.mem_of_getElem? (i := 126) (by decide +kernel)) rfl)
theorem ml_K_41 : xk_ML "SandKernel" 41 m_Opening_init := Or.inr ⟨"SandKernel", List.mem_of_getElem? (i := 19) (by decide +kernel)⟩
theorem ml_K_48 : xk_ML "SandKernel" 48 m_Task_init := Or.inr ⟨"SandKernel", List.mem_of_getElem? (i := 20) (by decide +kernel)⟩
theorem ml_K_49 : xk_ML "SandKernel" 49 m_Task_begin := Or.inl (xk_in (List.mem_of_getElem? (i := 182) (by decide +kernel)) rfl)
theorem ml_K_53 : xk_ML "SandKernel" 53 m_K_isBelow := Or.inl (xk_in (List.mem_of_getElem? (i := 206) (by decide +kernel)) rfl)
theorem ml_K_57 : xk_ML "SandKernel" 57 m_K_isOpen := Or.inl (xk_in (List.mem_of_getElem? (i := 209) (by decide +kernel)) rfl)
theorem ml_K_61 : xk_ML "SandKernel" 61 m_Cache_holdsFile := Or.inl (xk_in (List.mem_of_getElem? (i := 217) (by decide +kernel)) rfl)
theorem ml_K_64 : xk_ML "SandKernel" 64 m_Host_place := Or.inl (xk_in (List.mem_of_getElem? (i := 221) (by decide +kernel)) rfl)
theorem ml_K_68 : xk_ML "SandKernel" 68 m_Cache_setLength := Or.inl (xk_in (List.mem_of_getElem? (i := 235) (by decide +kernel)) rfl)
theorem ml_K_72 : xk_ML "SandKernel" 72 m_Host_setToFail := Or.inl (xk_in (List.mem_of_getElem? (i := 247) (by decide +kernel)) rfl)
theorem ml_K_75 : xk_ML "SandKernel" 75 m_K_isAlive := Or.inl (xk_in (List.mem_of_getElem? (i := 255) (by decide +kernel)) rfl)
theorem ml_K_78 : xk_ML "SandKernel" 78 m_Host_isThere := Or.inl (xk_in (List.mem_of_getElem? (i := 259) (by decide +kernel)) rfl)
theorem ml_K_81 : xk_ML "SandKernel" 81 m_Task_freeFrom := Or.inl (xk_in (List.mem_of_getElem? (i := 263) (by decide +kernel)) rfl)
theorem ml_K_85 : xk_ML "SandKernel" 85 m_K_unusedFrom := Or.inl (xk_in (List.mem_of_getElem? (i := 267) (by decide +kernel)) rfl)
theorem ml_K_88 : xk_ML "SandKernel" 88 m_K_readyFile := Or.inl (xk_in (List.mem_of_getElem? (i := 271) (by decide +kernel)) rfl)
theorem ml_K_91 : xk_ML "SandKernel" 91 m_Opening_becomeFile := Or.inl (xk_in (List.mem_of_getElem? (i := 291) (by decide +kernel)) rfl)
theorem ml_K_94 : xk_ML "SandKernel" 94 m_Task_hold := Or.inl (xk_in (List.mem_of_getElem? (i := 295) (by decide +kernel)) rfl)
theorem ml_K_100 : xk_ML "SandKernel" 100 m_Pipe_init := Or.inr ⟨"SandKernel", List.mem_of_getElem? (i := 21) (by decide +kernel)⟩
theorem ml_K_101 : xk_ML "SandKernel" 101 m_Opening_becomePipeEnd := Or.inl (xk_in (List.mem_of_getElem? (i := 327) (by decide +kernel)) rfl)
theorem ml_K_105 : xk_ML "SandKernel" 105 m_K_openingOf := Or.inl (xk_in (List.mem_of_getElem? (i := 335) (by decide +kernel)) rfl)
theorem ml_K_109 : xk_ML "SandKernel" 109 m_K_whyNoOpening := Or.inl (xk_in (List.mem_of_getElem? (i := 339) (by decide +kernel)) rfl)
theorem ml_K_113 : xk_ML "SandKernel" 113 m_Opening_may := Or.inl (xk_in (List.mem_of_getElem? (i := 343) (by decide +kernel)) rfl)
theorem ml_K_120 : xk_ML "SandKernel" 120 m_K_readFile := Or.inl (xk_in (List.mem_of_getElem? (i := 347) (by decide +kernel)) rfl)
theorem ml_K_124 : xk_ML "SandKernel" 124 m_Pipe_takeCell := Or.inl (xk_in (List.mem_of_getElem? (i := 397) (by decide +kernel)) rfl)
theorem ml_K_128 : xk_ML "SandKernel" 128 m_K_writeFile := Or.inl (xk_in (List.mem_of_getElem? (i := 405) (by decide +kernel)) rfl)
theorem ml_K_132 : xk_ML "SandKernel" 132 m_Pipe_addCell := Or.inl (xk_in (List.mem_of_getElem? (i := 410) (by decide +kernel)) rfl)
theorem ml_K_139 : xk_ML "SandKernel" 139 m_Cache_lengthOf := Or.inl (xk_in (List.mem_of_getElem? (i := 351) (by decide +kernel)) rfl)
theorem ml_K_145 : xk_ML "SandKernel" 145 m_Cache_writeFileOut := Or.inl (xk_in (List.mem_of_getElem? (i := 422) (by decide +kernel)) rfl)
theorem ml_K_148 : xk_ML "SandKernel" 148 m_Task_letGo := Or.inl (xk_in (List.mem_of_getElem? (i := 434) (by decide +kernel)) rfl)
theorem ml_K_151 : xk_ML "SandKernel" 151 m_Host_removeFile := Or.inl (xk_in (List.mem_of_getElem? (i := 451) (by decide +kernel)) rfl)
theorem ml_K_154 : xk_ML "SandKernel" 154 m_Cache_dropFile := Or.inl (xk_in (List.mem_of_getElem? (i := 287) (by decide +kernel)) rfl)
theorem ml_K_157 : xk_ML "SandKernel" 157 m_K_leastNotThere := Or.inl (xk_in (List.mem_of_getElem? (i := 459) (by decide +kernel)) rfl)
theorem ml_K_160 : xk_ML "SandKernel" 160 m_Task_shareAllOf := Or.inl (xk_in (List.mem_of_getElem? (i := 463) (by decide +kernel)) rfl)
theorem ml_K_164 : xk_ML "SandKernel" 164 m_Task_finish := Or.inl (xk_in (List.mem_of_getElem? (i := 472) (by decide +kernel)) rfl)
theorem ml_K_167 : xk_ML "SandKernel" 167 m_Task_isChildOf := Or.inl (xk_in (List.mem_of_getElem? (i := 481) (by decide +kernel)) rfl)
theorem ml_K_176 : xk_ML "SandKernel" 176 m_Task_vanish := Or.inl (xk_in (List.mem_of_getElem? (i := 489) (by decide +kernel)) rfl)
theorem ml_K_182 : xk_ML "SandKernel" 182 m_Cache_startAnew := Or.inl (xk_in (List.mem_of_getElem? (i := 497) (by decide +kernel)) rfl)
theorem ml_K_185 : xk_ML "SandKernel" 185 m_Host_lengthOf := Or.inl (xk_in (List.mem_of_getElem? (i := 509) (by decide +kernel)) rfl)
theorem ml_K_186 : xk_ML "SandKernel" 186 m_Host_cellAt := Or.inl (xk_in (List.mem_of_getElem? (i := 510) (by decide +kernel)) rfl)
theorem ml_K_189 : xk_ML "SandKernel" 189 m_Host_operations := Or.inl (xk_in (List.mem_of_getElem? (i := 518) (by decide +kernel)) rfl)
theorem ml_K_197 : xk_ML "SandKernel" 197 m_Host_entryAt := Or.inl (xk_in (List.mem_of_getElem? (i := 523) (by decide +kernel)) rfl)
theorem ml_K_200 : xk_ML "SandKernel" 200 m_Cache_size := Or.inl (xk_in (List.mem_of_getElem? (i := 531) (by decide +kernel)) rfl)
theorem ml_K_203 : xk_ML "SandKernel" 203 m_Cache_blockAt := Or.inl (xk_in (List.mem_of_getElem? (i := 535) (by decide +kernel)) rfl)
theorem ml_K_207 : xk_ML "SandKernel" 207 m_Block_describe := Or.inl (xk_in (List.mem_of_getElem? (i := 539) (by decide +kernel)) rfl)
theorem ml_K_212 : xk_ML "SandKernel" 212 m_K_openingsThere := Or.inl (xk_in (List.mem_of_getElem? (i := 547) (by decide +kernel)) rfl)
theorem ml_K_215 : xk_ML "SandKernel" 215 m_K_tasksThere := Or.inl (xk_in (List.mem_of_getElem? (i := 551) (by decide +kernel)) rfl)
theorem ml_K_218 : xk_ML "SandKernel" 218 m_Cache_dirtyBlocks := Or.inl (xk_in (List.mem_of_getElem? (i := 555) (by decide +kernel)) rfl)
theorem ml_K_221 : xk_ML "SandKernel" 221 m_Host_leftToFail := Or.inl (xk_in (List.mem_of_getElem? (i := 559) (by decide +kernel)) rfl)
theorem ml_K_227 : xk_ML "SandKernel" 227 m_Opening_isOfFile := Or.inl (xk_in (List.mem_of_getElem? (i := 213) (by decide +kernel)) rfl)
theorem ml_K_233 : xk_ML "SandKernel" 233 m_Host_makeFile := Or.inl (xk_in (List.mem_of_getElem? (i := 275) (by decide +kernel)) rfl)
theorem ml_K_236 : xk_ML "SandKernel" 236 m_Host_emptyFile := Or.inl (xk_in (List.mem_of_getElem? (i := 283) (by decide +kernel)) rfl)
theorem ml_K_239 : xk_ML "SandKernel" 239 m_Cache_getBlock := Or.inl (xk_in (List.mem_of_getElem? (i := 355) (by decide +kernel)) rfl)
theorem ml_Cache_29 : xk_ML "SandKernel$Cache" 29 m_Block_init := Or.inr ⟨"SandKernel", List.mem_of_getElem? (i := 18) (by decide +kernel)⟩
theorem ml_Cache_37 : xk_ML "SandKernel$Cache" 37 m_Cache_find := Or.inl (xk_in (List.mem_of_getElem? (i := 359) (by decide +kernel)) rfl)
theorem ml_Cache_41 : xk_ML "SandKernel$Cache" 41 m_Cache_makeRoom := Or.inl (xk_in (List.mem_of_getElem? (i := 367) (by decide +kernel)) rfl)
theorem ml_Cache_45 : xk_ML "SandKernel$Cache" 45 m_Cache_bringIn := Or.inl (xk_in (List.mem_of_getElem? (i := 385) (by decide +kernel)) rfl)
theorem ml_Cache_49 : xk_ML "SandKernel$Cache" 49 m_Cache_writeOut := Or.inl (xk_in (List.mem_of_getElem? (i := 371) (by decide +kernel)) rfl)
theorem ml_Cache_53 : xk_ML "SandKernel$Cache" 53 m_Host_lengthOf := Or.inl (xk_in (List.mem_of_getElem? (i := 501) (by decide +kernel)) rfl)
theorem ml_Cache_59 : xk_ML "SandKernel$Cache" 59 m_Block_isOf := Or.inl (xk_in (List.mem_of_getElem? (i := 363) (by decide +kernel)) rfl)
theorem ml_Cache_65 : xk_ML "SandKernel$Cache" 65 m_Arr_fill2 := Or.inl (xk_in (List.mem_of_getElem? (i := 389) (by decide +kernel)) rfl)
theorem ml_Cache_71 : xk_ML "SandKernel$Cache" 71 m_Host_readBlock := Or.inl (xk_in (List.mem_of_getElem? (i := 390) (by decide +kernel)) rfl)
theorem ml_Cache_78 : xk_ML "SandKernel$Cache" 78 m_Host_writeBlock := Or.inl (xk_in (List.mem_of_getElem? (i := 375) (by decide +kernel)) rfl)
theorem ml_Host_32 : xk_ML "SandKernel$Host" 32 m_Host_clear := Or.inl (xk_in (List.mem_of_getElem? (i := 225) (by decide +kernel)) rfl)
theorem ml_Host_36 : xk_ML "SandKernel$Host" 36 m_Host_succeeds := Or.inl (xk_in (List.mem_of_getElem? (i := 279) (by decide +kernel)) rfl)
theorem ml_Host_55 : xk_ML "SandKernel$Host" 55 m_Arr_fill4 := Or.inl (xk_in (List.mem_of_getElem? (i := 229) (by decide +kernel)) rfl)
theorem ml_Opening_28 : xk_ML "SandKernel$Opening" 28 m_Opening_leavePipe := Or.inl (xk_in (List.mem_of_getElem? (i := 442) (by decide +kernel)) rfl)
theorem ml_Opening_32 : xk_ML "SandKernel$Opening" 32 m_Opening_may := Or.inl (xk_in (List.mem_of_getElem? (i := 446) (by decide +kernel)) rfl)
theorem ml_Task_27 : xk_ML "SandKernel$Task" 27 m_Task_letGoAll := Or.inl (xk_in (List.mem_of_getElem? (i := 476) (by decide +kernel)) rfl)
theorem ml_Task_33 : xk_ML "SandKernel$Task" 33 m_Opening_loseHolder := Or.inl (xk_in (List.mem_of_getElem? (i := 438) (by decide +kernel)) rfl)
theorem ml_Task_36 : xk_ML "SandKernel$Task" 36 m_Task_hold := Or.inl (xk_in (List.mem_of_getElem? (i := 467) (by decide +kernel)) rfl)
theorem ml_Task_40 : xk_ML "SandKernel$Task" 40 m_Task_letGo := Or.inl (xk_in (List.mem_of_getElem? (i := 480) (by decide +kernel)) rfl)
theorem ml_L_9 : xk_ML "SandKernelLaw" 9 m_K_init := Or.inl (xk_in (List.mem_of_getElem? (i := 48) (by decide +kernel)) rfl)
theorem ml_L_12 : xk_ML "SandKernelLaw" 12 m_M_init := Or.inl (xk_in (List.mem_of_getElem? (i := 565) (by decide +kernel)) rfl)
theorem ml_L_13 : xk_ML "SandKernelLaw" 13 m_K_put := Or.inl (xk_in (List.mem_of_getElem? (i := 202) (by decide +kernel)) rfl)
theorem ml_L_17 : xk_ML "SandKernelLaw" 17 m_M_put := Or.inl (xk_in (List.mem_of_getElem? (i := 643) (by decide +kernel)) rfl)
theorem ml_L_18 : xk_ML "SandKernelLaw" 18 m_K_policy := Or.inl (xk_in (List.mem_of_getElem? (i := 239) (by decide +kernel)) rfl)
theorem ml_L_22 : xk_ML "SandKernelLaw" 22 m_M_policy := Or.inl (xk_in (List.mem_of_getElem? (i := 662) (by decide +kernel)) rfl)
theorem ml_L_23 : xk_ML "SandKernelLaw" 23 m_K_failing := Or.inl (xk_in (List.mem_of_getElem? (i := 243) (by decide +kernel)) rfl)
theorem ml_L_27 : xk_ML "SandKernelLaw" 27 m_M_failing := Or.inl (xk_in (List.mem_of_getElem? (i := 666) (by decide +kernel)) rfl)
theorem ml_L_28 : xk_ML "SandKernelLaw" 28 m_K_open := Or.inl (xk_in (List.mem_of_getElem? (i := 251) (by decide +kernel)) rfl)
theorem ml_L_31 : xk_ML "SandKernelLaw" 31 m_M_open := Or.inl (xk_in (List.mem_of_getElem? (i := 670) (by decide +kernel)) rfl)
theorem ml_L_32 : xk_ML "SandKernelLaw" 32 m_K_pipe := Or.inl (xk_in (List.mem_of_getElem? (i := 299) (by decide +kernel)) rfl)
theorem ml_L_35 : xk_ML "SandKernelLaw" 35 m_M_pipe := Or.inl (xk_in (List.mem_of_getElem? (i := 698) (by decide +kernel)) rfl)
theorem ml_L_36 : xk_ML "SandKernelLaw" 36 m_K_read := Or.inl (xk_in (List.mem_of_getElem? (i := 331) (by decide +kernel)) rfl)
theorem ml_L_39 : xk_ML "SandKernelLaw" 39 m_M_read := Or.inl (xk_in (List.mem_of_getElem? (i := 706) (by decide +kernel)) rfl)
theorem ml_L_40 : xk_ML "SandKernelLaw" 40 m_K_write := Or.inl (xk_in (List.mem_of_getElem? (i := 401) (by decide +kernel)) rfl)
theorem ml_L_43 : xk_ML "SandKernelLaw" 43 m_M_write := Or.inl (xk_in (List.mem_of_getElem? (i := 726) (by decide +kernel)) rfl)
theorem ml_L_44 : xk_ML "SandKernelLaw" 44 m_K_seek := Or.inl (xk_in (List.mem_of_getElem? (i := 414) (by decide +kernel)) rfl)
theorem ml_L_47 : xk_ML "SandKernelLaw" 47 m_M_seek := Or.inl (xk_in (List.mem_of_getElem? (i := 730) (by decide +kernel)) rfl)
theorem ml_L_48 : xk_ML "SandKernelLaw" 48 m_K_sync := Or.inl (xk_in (List.mem_of_getElem? (i := 418) (by decide +kernel)) rfl)
theorem ml_L_51 : xk_ML "SandKernelLaw" 51 m_M_sync := Or.inl (xk_in (List.mem_of_getElem? (i := 734) (by decide +kernel)) rfl)
theorem ml_L_52 : xk_ML "SandKernelLaw" 52 m_K_dup := Or.inl (xk_in (List.mem_of_getElem? (i := 426) (by decide +kernel)) rfl)
theorem ml_L_55 : xk_ML "SandKernelLaw" 55 m_M_dup := Or.inl (xk_in (List.mem_of_getElem? (i := 738) (by decide +kernel)) rfl)
theorem ml_L_56 : xk_ML "SandKernelLaw" 56 m_K_close := Or.inl (xk_in (List.mem_of_getElem? (i := 430) (by decide +kernel)) rfl)
theorem ml_L_59 : xk_ML "SandKernelLaw" 59 m_M_close := Or.inl (xk_in (List.mem_of_getElem? (i := 742) (by decide +kernel)) rfl)
theorem ml_L_60 : xk_ML "SandKernelLaw" 60 m_K_unlink := Or.inl (xk_in (List.mem_of_getElem? (i := 447) (by decide +kernel)) rfl)
theorem ml_L_63 : xk_ML "SandKernelLaw" 63 m_M_unlink := Or.inl (xk_in (List.mem_of_getElem? (i := 746) (by decide +kernel)) rfl)
theorem ml_L_64 : xk_ML "SandKernelLaw" 64 m_K_fork := Or.inl (xk_in (List.mem_of_getElem? (i := 455) (by decide +kernel)) rfl)
theorem ml_L_67 : xk_ML "SandKernelLaw" 67 m_M_fork := Or.inl (xk_in (List.mem_of_getElem? (i := 750) (by decide +kernel)) rfl)
theorem ml_L_68 : xk_ML "SandKernelLaw" 68 m_K_exit := Or.inl (xk_in (List.mem_of_getElem? (i := 468) (by decide +kernel)) rfl)
theorem ml_L_71 : xk_ML "SandKernelLaw" 71 m_M_exit := Or.inl (xk_in (List.mem_of_getElem? (i := 754) (by decide +kernel)) rfl)
theorem ml_L_72 : xk_ML "SandKernelLaw" 72 m_K_wait := Or.inl (xk_in (List.mem_of_getElem? (i := 485) (by decide +kernel)) rfl)
theorem ml_L_75 : xk_ML "SandKernelLaw" 75 m_M_wait := Or.inl (xk_in (List.mem_of_getElem? (i := 758) (by decide +kernel)) rfl)
theorem ml_L_76 : xk_ML "SandKernelLaw" 76 m_K_crash := Or.inl (xk_in (List.mem_of_getElem? (i := 493) (by decide +kernel)) rfl)
theorem ml_L_80 : xk_ML "SandKernelLaw" 80 m_M_crash := Or.inl (xk_in (List.mem_of_getElem? (i := 762) (by decide +kernel)) rfl)
theorem ml_L_81 : xk_ML "SandKernelLaw" 81 m_K_host := Or.inl (xk_in (List.mem_of_getElem? (i := 505) (by decide +kernel)) rfl)
theorem ml_L_84 : xk_ML "SandKernelLaw" 84 m_M_host := Or.inl (xk_in (List.mem_of_getElem? (i := 766) (by decide +kernel)) rfl)
theorem ml_L_85 : xk_ML "SandKernelLaw" 85 m_K_log := Or.inl (xk_in (List.mem_of_getElem? (i := 514) (by decide +kernel)) rfl)
theorem ml_L_88 : xk_ML "SandKernelLaw" 88 m_M_log := Or.inl (xk_in (List.mem_of_getElem? (i := 770) (by decide +kernel)) rfl)
theorem ml_L_89 : xk_ML "SandKernelLaw" 89 m_K_cached := Or.inl (xk_in (List.mem_of_getElem? (i := 527) (by decide +kernel)) rfl)
theorem ml_L_92 : xk_ML "SandKernelLaw" 92 m_M_cached := Or.inl (xk_in (List.mem_of_getElem? (i := 774) (by decide +kernel)) rfl)
theorem ml_L_93 : xk_ML "SandKernelLaw" 93 m_K_count := Or.inl (xk_in (List.mem_of_getElem? (i := 543) (by decide +kernel)) rfl)
theorem ml_L_96 : xk_ML "SandKernelLaw" 96 m_M_count := Or.inl (xk_in (List.mem_of_getElem? (i := 778) (by decide +kernel)) rfl)
theorem ml_M_71 : xk_ML "SandKernelModel" 71 m_M_reborn := Or.inl (xk_in (List.mem_of_getElem? (i := 569) (by decide +kernel)) rfl)
theorem ml_M_78 : xk_ML "SandKernelModel" 78 m_M_in := Or.inl (xk_in (List.mem_of_getElem? (i := 647) (by decide +kernel)) rfl)
theorem ml_M_82 : xk_ML "SandKernelModel" 82 m_M_used := Or.inl (xk_in (List.mem_of_getElem? (i := 654) (by decide +kernel)) rfl)
theorem ml_M_86 : xk_ML "SandKernelModel" 86 m_M_alive := Or.inl (xk_in (List.mem_of_getElem? (i := 674) (by decide +kernel)) rfl)
theorem ml_M_95 : xk_ML "SandKernelModel" 95 m_M_operate := Or.inl (xk_in (List.mem_of_getElem? (i := 686) (by decide +kernel)) rfl)
theorem ml_M_98 : xk_ML "SandKernelModel" 98 m_M_toFront := Or.inl (xk_in (List.mem_of_getElem? (i := 718) (by decide +kernel)) rfl)
theorem ml_M_102 : xk_ML "SandKernelModel" 102 m_M_writeBack := Or.inl (xk_in (List.mem_of_getElem? (i := 722) (by decide +kernel)) rfl)
theorem ml_M_105 : xk_ML "SandKernelModel" 105 m_M_openFile := Or.inl (xk_in (List.mem_of_getElem? (i := 650) (by decide +kernel)) rfl)
theorem ml_M_108 : xk_ML "SandKernelModel" 108 m_M_wipeHost := Or.inl (xk_in (List.mem_of_getElem? (i := 658) (by decide +kernel)) rfl)
theorem ml_M_111 : xk_ML "SandKernelModel" 111 m_M_free := Or.inl (xk_in (List.mem_of_getElem? (i := 678) (by decide +kernel)) rfl)
theorem ml_M_115 : xk_ML "SandKernelModel" 115 m_M_openings := Or.inl (xk_in (List.mem_of_getElem? (i := 682) (by decide +kernel)) rfl)
theorem ml_M_119 : xk_ML "SandKernelModel" 119 m_M_forget := Or.inl (xk_in (List.mem_of_getElem? (i := 690) (by decide +kernel)) rfl)
theorem ml_M_122 : xk_ML "SandKernelModel" 122 m_M_newOpening := Or.inl (xk_in (List.mem_of_getElem? (i := 694) (by decide +kernel)) rfl)
theorem ml_M_126 : xk_ML "SandKernelModel" 126 m_M_hasEnd := Or.inl (xk_in (List.mem_of_getElem? (i := 702) (by decide +kernel)) rfl)
theorem ml_M_130 : xk_ML "SandKernelModel" 130 m_M_opening := Or.inl (xk_in (List.mem_of_getElem? (i := 710) (by decide +kernel)) rfl)
theorem ml_M_133 : xk_ML "SandKernelModel" 133 m_M_get := Or.inl (xk_in (List.mem_of_getElem? (i := 714) (by decide +kernel)) rfl)
theorem ml_Arr_13 : xk_ML "java/util/Arrays" 13 m_Arr_rangeCheck := Or.inl (xk_in (List.mem_of_getElem? (i := 232) (by decide +kernel)) rfl)
theorem mo_K_init : xk_mok m_K_init 0 := ⟨rfl, by decide, (xk_in (List.mem_of_getElem? (i := 50) (by decide +kernel)) rfl), (xk_in (List.mem_of_getElem? (i := 35) (by decide +kernel)) rfl), ⟨by decide, by decide⟩, by decide +kernel⟩
theorem cz_K_init : xk_CI m_K_init 0 := ⟨mo_K_init, rfl, rfl, (xk_in (List.mem_of_getElem? (i := 49) (by decide +kernel)) rfl), by decide⟩
theorem mo_Host_init : xk_mok m_Host_init 0 := ⟨rfl, by decide, (xk_in (List.mem_of_getElem? (i := 58) (by decide +kernel)) rfl), (xk_in (List.mem_of_getElem? (i := 36) (by decide +kernel)) rfl), ⟨by decide, by decide⟩, by decide +kernel⟩
theorem cz_Host_init : xk_CI m_Host_init 0 := ⟨mo_Host_init, rfl, rfl, (xk_in (List.mem_of_getElem? (i := 57) (by decide +kernel)) rfl), by decide⟩
theorem mo_Cache_init : xk_mok m_Cache_init 1 := ⟨rfl, by decide, (xk_in (List.mem_of_getElem? (i := 85) (by decide +kernel)) rfl), (xk_in (List.mem_of_getElem? (i := 37) (by decide +kernel)) rfl), ⟨by decide, by decide⟩, by decide +kernel⟩
theorem cz_Cache_init : xk_CI m_Cache_init 1 := ⟨mo_Cache_init, rfl, rfl, (xk_in (List.mem_of_getElem? (i := 84) (by decide +kernel)) rfl), by decide⟩
theorem mo_Block_init : xk_mok m_Block_init 0 := ⟨rfl, by decide, (xk_in (List.mem_of_getElem? (i := 92) (by decide +kernel)) rfl), (xk_in (List.mem_of_getElem? (i := 38) (by decide +kernel)) rfl), ⟨by decide, by decide⟩, by decide +kernel⟩
theorem cz_Block_init : xk_CI m_Block_init 0 := ⟨mo_Block_init, rfl, rfl, (xk_in (List.mem_of_getElem? (i := 91) (by decide +kernel)) rfl), by decide⟩
theorem mo_Arr_fill2 : xk_mok m_Arr_fill2 2 := ⟨rfl, by decide, (xk_in (List.mem_of_getElem? (i := 128) (by decide +kernel)) rfl), (xk_in (List.mem_of_getElem? (i := 39) (by decide +kernel)) rfl), ⟨by decide, by decide⟩, by decide +kernel⟩
theorem cz_Arr_fill2 : xk_CS m_Arr_fill2 2 := ⟨mo_Arr_fill2, (xk_in (List.mem_of_getElem? (i := 127) (by decide +kernel)) rfl), by decide⟩
theorem mo_Opening_init : xk_mok m_Opening_init 0 := ⟨rfl, by decide, (xk_in (List.mem_of_getElem? (i := 134) (by decide +kernel)) rfl), (xk_in (List.mem_of_getElem? (i := 40) (by decide +kernel)) rfl), ⟨by decide, by decide⟩, by decide +kernel⟩
theorem cz_Opening_init : xk_CI m_Opening_init 0 := ⟨mo_Opening_init, rfl, rfl, (xk_in (List.mem_of_getElem? (i := 133) (by decide +kernel)) rfl), by decide⟩
theorem mo_Task_init : xk_mok m_Task_init 0 := ⟨rfl, by decide, (xk_in (List.mem_of_getElem? (i := 162) (by decide +kernel)) rfl), (xk_in (List.mem_of_getElem? (i := 41) (by decide +kernel)) rfl), ⟨by decide, by decide⟩, by decide +kernel⟩
theorem cz_Task_init : xk_CI m_Task_init 0 := ⟨mo_Task_init, rfl, rfl, (xk_in (List.mem_of_getElem? (i := 161) (by decide +kernel)) rfl), by decide⟩
theorem mo_Task_begin : xk_mok m_Task_begin 1 := ⟨rfl, by decide, (xk_in (List.mem_of_getElem? (i := 185) (by decide +kernel)) rfl), (xk_in (List.mem_of_getElem? (i := 41) (by decide +kernel)) rfl), ⟨by decide, by decide⟩, by decide +kernel⟩
theorem cz_Task_begin : xk_CV m_Task_begin 5 1 := ⟨mo_Task_begin, (xk_in (List.mem_of_getElem? (i := 183) (by decide +kernel)) rfl), (xk_in (List.mem_of_getElem? (i := 184) (by decide +kernel)) rfl), ⟨_, rfl, rfl⟩, by decide⟩
theorem mo_K_put : xk_mok m_K_put 3 := ⟨rfl, by decide, (xk_in (List.mem_of_getElem? (i := 205) (by decide +kernel)) rfl), (xk_in (List.mem_of_getElem? (i := 35) (by decide +kernel)) rfl), ⟨by decide, by decide⟩, by decide +kernel⟩
theorem cz_K_put : xk_CV m_K_put 6 3 := ⟨mo_K_put, (xk_in (List.mem_of_getElem? (i := 203) (by decide +kernel)) rfl), (xk_in (List.mem_of_getElem? (i := 204) (by decide +kernel)) rfl), ⟨_, rfl, rfl⟩, by decide⟩
theorem mo_K_isBelow : xk_mok m_K_isBelow 2 := ⟨rfl, by decide, (xk_in (List.mem_of_getElem? (i := 208) (by decide +kernel)) rfl), (xk_in (List.mem_of_getElem? (i := 35) (by decide +kernel)) rfl), ⟨by decide, by decide⟩, by decide +kernel⟩
theorem cz_K_isBelow : xk_CS m_K_isBelow 2 := ⟨mo_K_isBelow, (xk_in (List.mem_of_getElem? (i := 207) (by decide +kernel)) rfl), by decide⟩
theorem mo_K_isOpen : xk_mok m_K_isOpen 1 := ⟨rfl, by decide, (xk_in (List.mem_of_getElem? (i := 212) (by decide +kernel)) rfl), (xk_in (List.mem_of_getElem? (i := 35) (by decide +kernel)) rfl), ⟨by decide, by decide⟩, by decide +kernel⟩
theorem cz_K_isOpen : xk_CV m_K_isOpen 6 1 := ⟨mo_K_isOpen, (xk_in (List.mem_of_getElem? (i := 211) (by decide +kernel)) rfl), (xk_in (List.mem_of_getElem? (i := 0) (by decide +kernel)) rfl), ⟨_, rfl, rfl⟩, by decide⟩
theorem mo_Opening_isOfFile : xk_mok m_Opening_isOfFile 1 := ⟨rfl, by decide, (xk_in (List.mem_of_getElem? (i := 216) (by decide +kernel)) rfl), (xk_in (List.mem_of_getElem? (i := 40) (by decide +kernel)) rfl), ⟨by decide, by decide⟩, by decide +kernel⟩
theorem cz_Opening_isOfFile : xk_CV m_Opening_isOfFile 3 1 := ⟨mo_Opening_isOfFile, (xk_in (List.mem_of_getElem? (i := 214) (by decide +kernel)) rfl), (xk_in (List.mem_of_getElem? (i := 215) (by decide +kernel)) rfl), ⟨_, rfl, rfl⟩, by decide⟩
theorem mo_Cache_holdsFile : xk_mok m_Cache_holdsFile 1 := ⟨rfl, by decide, (xk_in (List.mem_of_getElem? (i := 220) (by decide +kernel)) rfl), (xk_in (List.mem_of_getElem? (i := 37) (by decide +kernel)) rfl), ⟨by decide, by decide⟩, by decide +kernel⟩
theorem cz_Cache_holdsFile : xk_CV m_Cache_holdsFile 1 1 := ⟨mo_Cache_holdsFile, (xk_in (List.mem_of_getElem? (i := 218) (by decide +kernel)) rfl), (xk_in (List.mem_of_getElem? (i := 219) (by decide +kernel)) rfl), ⟨_, rfl, rfl⟩, by decide⟩
theorem mo_Host_place : xk_mok m_Host_place 3 := ⟨rfl, by decide, (xk_in (List.mem_of_getElem? (i := 224) (by decide +kernel)) rfl), (xk_in (List.mem_of_getElem? (i := 36) (by decide +kernel)) rfl), ⟨by decide, by decide⟩, by decide +kernel⟩
theorem cz_Host_place : xk_CV m_Host_place 2 3 := ⟨mo_Host_place, (xk_in (List.mem_of_getElem? (i := 222) (by decide +kernel)) rfl), (xk_in (List.mem_of_getElem? (i := 223) (by decide +kernel)) rfl), ⟨_, rfl, rfl⟩, by decide⟩
theorem mo_Host_clear : xk_mok m_Host_clear 1 := ⟨rfl, by decide, (xk_in (List.mem_of_getElem? (i := 228) (by decide +kernel)) rfl), (xk_in (List.mem_of_getElem? (i := 36) (by decide +kernel)) rfl), ⟨by decide, by decide⟩, by decide +kernel⟩
theorem cz_Host_clear : xk_CV m_Host_clear 2 1 := ⟨mo_Host_clear, (xk_in (List.mem_of_getElem? (i := 227) (by decide +kernel)) rfl), (xk_in (List.mem_of_getElem? (i := 1) (by decide +kernel)) rfl), ⟨_, rfl, rfl⟩, by decide⟩
theorem mo_Arr_fill4 : xk_mok m_Arr_fill4 4 := ⟨rfl, by decide, (xk_in (List.mem_of_getElem? (i := 231) (by decide +kernel)) rfl), (xk_in (List.mem_of_getElem? (i := 39) (by decide +kernel)) rfl), ⟨by decide, by decide⟩, by decide +kernel⟩
theorem cz_Arr_fill4 : xk_CS m_Arr_fill4 4 := ⟨mo_Arr_fill4, (xk_in (List.mem_of_getElem? (i := 230) (by decide +kernel)) rfl), by decide⟩
theorem mo_Arr_rangeCheck : xk_mok m_Arr_rangeCheck 3 := ⟨rfl, by decide, (xk_in (List.mem_of_getElem? (i := 234) (by decide +kernel)) rfl), (xk_in (List.mem_of_getElem? (i := 39) (by decide +kernel)) rfl), ⟨by decide, by decide⟩, by decide +kernel⟩
theorem cz_Arr_rangeCheck : xk_CS m_Arr_rangeCheck 3 := ⟨mo_Arr_rangeCheck, (xk_in (List.mem_of_getElem? (i := 233) (by decide +kernel)) rfl), by decide⟩
theorem mo_Cache_setLength : xk_mok m_Cache_setLength 2 := ⟨rfl, by decide, (xk_in (List.mem_of_getElem? (i := 238) (by decide +kernel)) rfl), (xk_in (List.mem_of_getElem? (i := 37) (by decide +kernel)) rfl), ⟨by decide, by decide⟩, by decide +kernel⟩
theorem cz_Cache_setLength : xk_CV m_Cache_setLength 1 2 := ⟨mo_Cache_setLength, (xk_in (List.mem_of_getElem? (i := 236) (by decide +kernel)) rfl), (xk_in (List.mem_of_getElem? (i := 237) (by decide +kernel)) rfl), ⟨_, rfl, rfl⟩, by decide⟩
theorem mo_K_policy : xk_mok m_K_policy 2 := ⟨rfl, by decide, (xk_in (List.mem_of_getElem? (i := 242) (by decide +kernel)) rfl), (xk_in (List.mem_of_getElem? (i := 35) (by decide +kernel)) rfl), ⟨by decide, by decide⟩, by decide +kernel⟩
theorem cz_K_policy : xk_CV m_K_policy 6 2 := ⟨mo_K_policy, (xk_in (List.mem_of_getElem? (i := 240) (by decide +kernel)) rfl), (xk_in (List.mem_of_getElem? (i := 241) (by decide +kernel)) rfl), ⟨_, rfl, rfl⟩, by decide⟩
theorem mo_K_failing : xk_mok m_K_failing 1 := ⟨rfl, by decide, (xk_in (List.mem_of_getElem? (i := 246) (by decide +kernel)) rfl), (xk_in (List.mem_of_getElem? (i := 35) (by decide +kernel)) rfl), ⟨by decide, by decide⟩, by decide +kernel⟩
theorem cz_K_failing : xk_CV m_K_failing 6 1 := ⟨mo_K_failing, (xk_in (List.mem_of_getElem? (i := 244) (by decide +kernel)) rfl), (xk_in (List.mem_of_getElem? (i := 245) (by decide +kernel)) rfl), ⟨_, rfl, rfl⟩, by decide⟩
theorem mo_Host_setToFail : xk_mok m_Host_setToFail 1 := ⟨rfl, by decide, (xk_in (List.mem_of_getElem? (i := 250) (by decide +kernel)) rfl), (xk_in (List.mem_of_getElem? (i := 36) (by decide +kernel)) rfl), ⟨by decide, by decide⟩, by decide +kernel⟩
theorem cz_Host_setToFail : xk_CV m_Host_setToFail 2 1 := ⟨mo_Host_setToFail, (xk_in (List.mem_of_getElem? (i := 248) (by decide +kernel)) rfl), (xk_in (List.mem_of_getElem? (i := 249) (by decide +kernel)) rfl), ⟨_, rfl, rfl⟩, by decide⟩
theorem mo_K_open : xk_mok m_K_open 3 := ⟨rfl, by decide, (xk_in (List.mem_of_getElem? (i := 254) (by decide +kernel)) rfl), (xk_in (List.mem_of_getElem? (i := 35) (by decide +kernel)) rfl), ⟨by decide, by decide⟩, by decide +kernel⟩
theorem cz_K_open : xk_CV m_K_open 6 3 := ⟨mo_K_open, (xk_in (List.mem_of_getElem? (i := 252) (by decide +kernel)) rfl), (xk_in (List.mem_of_getElem? (i := 253) (by decide +kernel)) rfl), ⟨_, rfl, rfl⟩, by decide⟩
theorem mo_K_isAlive : xk_mok m_K_isAlive 1 := ⟨rfl, by decide, (xk_in (List.mem_of_getElem? (i := 258) (by decide +kernel)) rfl), (xk_in (List.mem_of_getElem? (i := 35) (by decide +kernel)) rfl), ⟨by decide, by decide⟩, by decide +kernel⟩
theorem cz_K_isAlive : xk_CV m_K_isAlive 6 1 := ⟨mo_K_isAlive, (xk_in (List.mem_of_getElem? (i := 257) (by decide +kernel)) rfl), (xk_in (List.mem_of_getElem? (i := 2) (by decide +kernel)) rfl), ⟨_, rfl, rfl⟩, by decide⟩
theorem mo_Host_isThere : xk_mok m_Host_isThere 1 := ⟨rfl, by decide, (xk_in (List.mem_of_getElem? (i := 262) (by decide +kernel)) rfl), (xk_in (List.mem_of_getElem? (i := 36) (by decide +kernel)) rfl), ⟨by decide, by decide⟩, by decide +kernel⟩
theorem cz_Host_isThere : xk_CV m_Host_isThere 2 1 := ⟨mo_Host_isThere, (xk_in (List.mem_of_getElem? (i := 260) (by decide +kernel)) rfl), (xk_in (List.mem_of_getElem? (i := 261) (by decide +kernel)) rfl), ⟨_, rfl, rfl⟩, by decide⟩
theorem mo_Task_freeFrom : xk_mok m_Task_freeFrom 1 := ⟨rfl, by decide, (xk_in (List.mem_of_getElem? (i := 266) (by decide +kernel)) rfl), (xk_in (List.mem_of_getElem? (i := 41) (by decide +kernel)) rfl), ⟨by decide, by decide⟩, by decide +kernel⟩
theorem cz_Task_freeFrom : xk_CV m_Task_freeFrom 5 1 := ⟨mo_Task_freeFrom, (xk_in (List.mem_of_getElem? (i := 264) (by decide +kernel)) rfl), (xk_in (List.mem_of_getElem? (i := 265) (by decide +kernel)) rfl), ⟨_, rfl, rfl⟩, by decide⟩
theorem mo_K_unusedFrom : xk_mok m_K_unusedFrom 1 := ⟨rfl, by decide, (xk_in (List.mem_of_getElem? (i := 270) (by decide +kernel)) rfl), (xk_in (List.mem_of_getElem? (i := 35) (by decide +kernel)) rfl), ⟨by decide, by decide⟩, by decide +kernel⟩
theorem cz_K_unusedFrom : xk_CV m_K_unusedFrom 6 1 := ⟨mo_K_unusedFrom, (xk_in (List.mem_of_getElem? (i := 269) (by decide +kernel)) rfl), (xk_in (List.mem_of_getElem? (i := 3) (by decide +kernel)) rfl), ⟨_, rfl, rfl⟩, by decide⟩
theorem mo_K_readyFile : xk_mok m_K_readyFile 2 := ⟨rfl, by decide, (xk_in (List.mem_of_getElem? (i := 274) (by decide +kernel)) rfl), (xk_in (List.mem_of_getElem? (i := 35) (by decide +kernel)) rfl), ⟨by decide, by decide⟩, by decide +kernel⟩
theorem cz_K_readyFile : xk_CV m_K_readyFile 6 2 := ⟨mo_K_readyFile, (xk_in (List.mem_of_getElem? (i := 273) (by decide +kernel)) rfl), (xk_in (List.mem_of_getElem? (i := 4) (by decide +kernel)) rfl), ⟨_, rfl, rfl⟩, by decide⟩
theorem mo_Host_makeFile : xk_mok m_Host_makeFile 1 := ⟨rfl, by decide, (xk_in (List.mem_of_getElem? (i := 278) (by decide +kernel)) rfl), (xk_in (List.mem_of_getElem? (i := 36) (by decide +kernel)) rfl), ⟨by decide, by decide⟩, by decide +kernel⟩
theorem cz_Host_makeFile : xk_CV m_Host_makeFile 2 1 := ⟨mo_Host_makeFile, (xk_in (List.mem_of_getElem? (i := 276) (by decide +kernel)) rfl), (xk_in (List.mem_of_getElem? (i := 277) (by decide +kernel)) rfl), ⟨_, rfl, rfl⟩, by decide⟩
theorem mo_Host_succeeds : xk_mok m_Host_succeeds 3 := ⟨rfl, by decide, (xk_in (List.mem_of_getElem? (i := 282) (by decide +kernel)) rfl), (xk_in (List.mem_of_getElem? (i := 36) (by decide +kernel)) rfl), ⟨by decide, by decide⟩, by decide +kernel⟩
theorem cz_Host_succeeds : xk_CV m_Host_succeeds 2 3 := ⟨mo_Host_succeeds, (xk_in (List.mem_of_getElem? (i := 281) (by decide +kernel)) rfl), (xk_in (List.mem_of_getElem? (i := 5) (by decide +kernel)) rfl), ⟨_, rfl, rfl⟩, by decide⟩
theorem mo_Host_emptyFile : xk_mok m_Host_emptyFile 1 := ⟨rfl, by decide, (xk_in (List.mem_of_getElem? (i := 286) (by decide +kernel)) rfl), (xk_in (List.mem_of_getElem? (i := 36) (by decide +kernel)) rfl), ⟨by decide, by decide⟩, by decide +kernel⟩
theorem cz_Host_emptyFile : xk_CV m_Host_emptyFile 2 1 := ⟨mo_Host_emptyFile, (xk_in (List.mem_of_getElem? (i := 284) (by decide +kernel)) rfl), (xk_in (List.mem_of_getElem? (i := 285) (by decide +kernel)) rfl), ⟨_, rfl, rfl⟩, by decide⟩
theorem mo_Cache_dropFile : xk_mok m_Cache_dropFile 1 := ⟨rfl, by decide, (xk_in (List.mem_of_getElem? (i := 290) (by decide +kernel)) rfl), (xk_in (List.mem_of_getElem? (i := 37) (by decide +kernel)) rfl), ⟨by decide, by decide⟩, by decide +kernel⟩
theorem cz_Cache_dropFile : xk_CV m_Cache_dropFile 1 1 := ⟨mo_Cache_dropFile, (xk_in (List.mem_of_getElem? (i := 288) (by decide +kernel)) rfl), (xk_in (List.mem_of_getElem? (i := 289) (by decide +kernel)) rfl), ⟨_, rfl, rfl⟩, by decide⟩
theorem mo_Opening_becomeFile : xk_mok m_Opening_becomeFile 2 := ⟨rfl, by decide, (xk_in (List.mem_of_getElem? (i := 294) (by decide +kernel)) rfl), (xk_in (List.mem_of_getElem? (i := 40) (by decide +kernel)) rfl), ⟨by decide, by decide⟩, by decide +kernel⟩
theorem cz_Opening_becomeFile : xk_CV m_Opening_becomeFile 3 2 := ⟨mo_Opening_becomeFile, (xk_in (List.mem_of_getElem? (i := 292) (by decide +kernel)) rfl), (xk_in (List.mem_of_getElem? (i := 293) (by decide +kernel)) rfl), ⟨_, rfl, rfl⟩, by decide⟩
theorem mo_Task_hold : xk_mok m_Task_hold 2 := ⟨rfl, by decide, (xk_in (List.mem_of_getElem? (i := 298) (by decide +kernel)) rfl), (xk_in (List.mem_of_getElem? (i := 41) (by decide +kernel)) rfl), ⟨by decide, by decide⟩, by decide +kernel⟩
theorem cz_Task_hold : xk_CV m_Task_hold 5 2 := ⟨mo_Task_hold, (xk_in (List.mem_of_getElem? (i := 296) (by decide +kernel)) rfl), (xk_in (List.mem_of_getElem? (i := 297) (by decide +kernel)) rfl), ⟨_, rfl, rfl⟩, by decide⟩
theorem mo_K_pipe : xk_mok m_K_pipe 1 := ⟨rfl, by decide, (xk_in (List.mem_of_getElem? (i := 302) (by decide +kernel)) rfl), (xk_in (List.mem_of_getElem? (i := 35) (by decide +kernel)) rfl), ⟨by decide, by decide⟩, by decide +kernel⟩
theorem cz_K_pipe : xk_CV m_K_pipe 6 1 := ⟨mo_K_pipe, (xk_in (List.mem_of_getElem? (i := 300) (by decide +kernel)) rfl), (xk_in (List.mem_of_getElem? (i := 301) (by decide +kernel)) rfl), ⟨_, rfl, rfl⟩, by decide⟩
theorem mo_Pipe_init : xk_mok m_Pipe_init 0 := ⟨rfl, by decide, (xk_in (List.mem_of_getElem? (i := 307) (by decide +kernel)) rfl), (xk_in (List.mem_of_getElem? (i := 43) (by decide +kernel)) rfl), ⟨by decide, by decide⟩, by decide +kernel⟩
theorem cz_Pipe_init : xk_CI m_Pipe_init 0 := ⟨mo_Pipe_init, rfl, rfl, (xk_in (List.mem_of_getElem? (i := 306) (by decide +kernel)) rfl), by decide⟩
theorem mo_Opening_becomePipeEnd : xk_mok m_Opening_becomePipeEnd 2 := ⟨rfl, by decide, (xk_in (List.mem_of_getElem? (i := 330) (by decide +kernel)) rfl), (xk_in (List.mem_of_getElem? (i := 40) (by decide +kernel)) rfl), ⟨by decide, by decide⟩, by decide +kernel⟩
theorem cz_Opening_becomePipeEnd : xk_CV m_Opening_becomePipeEnd 3 2 := ⟨mo_Opening_becomePipeEnd, (xk_in (List.mem_of_getElem? (i := 328) (by decide +kernel)) rfl), (xk_in (List.mem_of_getElem? (i := 329) (by decide +kernel)) rfl), ⟨_, rfl, rfl⟩, by decide⟩
theorem mo_K_read : xk_mok m_K_read 2 := ⟨rfl, by decide, (xk_in (List.mem_of_getElem? (i := 334) (by decide +kernel)) rfl), (xk_in (List.mem_of_getElem? (i := 35) (by decide +kernel)) rfl), ⟨by decide, by decide⟩, by decide +kernel⟩
theorem cz_K_read : xk_CV m_K_read 6 2 := ⟨mo_K_read, (xk_in (List.mem_of_getElem? (i := 332) (by decide +kernel)) rfl), (xk_in (List.mem_of_getElem? (i := 333) (by decide +kernel)) rfl), ⟨_, rfl, rfl⟩, by decide⟩
theorem mo_K_openingOf : xk_mok m_K_openingOf 2 := ⟨rfl, by decide, (xk_in (List.mem_of_getElem? (i := 338) (by decide +kernel)) rfl), (xk_in (List.mem_of_getElem? (i := 35) (by decide +kernel)) rfl), ⟨by decide, by decide⟩, by decide +kernel⟩
theorem cz_K_openingOf : xk_CV m_K_openingOf 6 2 := ⟨mo_K_openingOf, (xk_in (List.mem_of_getElem? (i := 337) (by decide +kernel)) rfl), (xk_in (List.mem_of_getElem? (i := 6) (by decide +kernel)) rfl), ⟨_, rfl, rfl⟩, by decide⟩
theorem mo_K_whyNoOpening : xk_mok m_K_whyNoOpening 2 := ⟨rfl, by decide, (xk_in (List.mem_of_getElem? (i := 342) (by decide +kernel)) rfl), (xk_in (List.mem_of_getElem? (i := 35) (by decide +kernel)) rfl), ⟨by decide, by decide⟩, by decide +kernel⟩
theorem cz_K_whyNoOpening : xk_CV m_K_whyNoOpening 6 2 := ⟨mo_K_whyNoOpening, (xk_in (List.mem_of_getElem? (i := 341) (by decide +kernel)) rfl), (xk_in (List.mem_of_getElem? (i := 7) (by decide +kernel)) rfl), ⟨_, rfl, rfl⟩, by decide⟩
theorem mo_Opening_may : xk_mok m_Opening_may 1 := ⟨rfl, by decide, (xk_in (List.mem_of_getElem? (i := 346) (by decide +kernel)) rfl), (xk_in (List.mem_of_getElem? (i := 40) (by decide +kernel)) rfl), ⟨by decide, by decide⟩, by decide +kernel⟩
theorem cz_Opening_may : xk_CV m_Opening_may 3 1 := ⟨mo_Opening_may, (xk_in (List.mem_of_getElem? (i := 344) (by decide +kernel)) rfl), (xk_in (List.mem_of_getElem? (i := 345) (by decide +kernel)) rfl), ⟨_, rfl, rfl⟩, by decide⟩
theorem mo_K_readFile : xk_mok m_K_readFile 1 := ⟨rfl, by decide, (xk_in (List.mem_of_getElem? (i := 350) (by decide +kernel)) rfl), (xk_in (List.mem_of_getElem? (i := 35) (by decide +kernel)) rfl), ⟨by decide, by decide⟩, by decide +kernel⟩
theorem cz_K_readFile : xk_CV m_K_readFile 6 1 := ⟨mo_K_readFile, (xk_in (List.mem_of_getElem? (i := 349) (by decide +kernel)) rfl), (xk_in (List.mem_of_getElem? (i := 8) (by decide +kernel)) rfl), ⟨_, rfl, rfl⟩, by decide⟩
theorem mo_Cache_lengthOf : xk_mok m_Cache_lengthOf 1 := ⟨rfl, by decide, (xk_in (List.mem_of_getElem? (i := 354) (by decide +kernel)) rfl), (xk_in (List.mem_of_getElem? (i := 37) (by decide +kernel)) rfl), ⟨by decide, by decide⟩, by decide +kernel⟩
theorem cz_Cache_lengthOf : xk_CV m_Cache_lengthOf 1 1 := ⟨mo_Cache_lengthOf, (xk_in (List.mem_of_getElem? (i := 352) (by decide +kernel)) rfl), (xk_in (List.mem_of_getElem? (i := 353) (by decide +kernel)) rfl), ⟨_, rfl, rfl⟩, by decide⟩
theorem mo_Cache_getBlock : xk_mok m_Cache_getBlock 2 := ⟨rfl, by decide, (xk_in (List.mem_of_getElem? (i := 358) (by decide +kernel)) rfl), (xk_in (List.mem_of_getElem? (i := 37) (by decide +kernel)) rfl), ⟨by decide, by decide⟩, by decide +kernel⟩
theorem cz_Cache_getBlock : xk_CV m_Cache_getBlock 1 2 := ⟨mo_Cache_getBlock, (xk_in (List.mem_of_getElem? (i := 356) (by decide +kernel)) rfl), (xk_in (List.mem_of_getElem? (i := 357) (by decide +kernel)) rfl), ⟨_, rfl, rfl⟩, by decide⟩
theorem mo_Cache_find : xk_mok m_Cache_find 2 := ⟨rfl, by decide, (xk_in (List.mem_of_getElem? (i := 362) (by decide +kernel)) rfl), (xk_in (List.mem_of_getElem? (i := 37) (by decide +kernel)) rfl), ⟨by decide, by decide⟩, by decide +kernel⟩
theorem cz_Cache_find : xk_CV m_Cache_find 1 2 := ⟨mo_Cache_find, (xk_in (List.mem_of_getElem? (i := 361) (by decide +kernel)) rfl), (xk_in (List.mem_of_getElem? (i := 9) (by decide +kernel)) rfl), ⟨_, rfl, rfl⟩, by decide⟩
theorem mo_Block_isOf : xk_mok m_Block_isOf 2 := ⟨rfl, by decide, (xk_in (List.mem_of_getElem? (i := 366) (by decide +kernel)) rfl), (xk_in (List.mem_of_getElem? (i := 38) (by decide +kernel)) rfl), ⟨by decide, by decide⟩, by decide +kernel⟩
theorem cz_Block_isOf : xk_CV m_Block_isOf 0 2 := ⟨mo_Block_isOf, (xk_in (List.mem_of_getElem? (i := 364) (by decide +kernel)) rfl), (xk_in (List.mem_of_getElem? (i := 365) (by decide +kernel)) rfl), ⟨_, rfl, rfl⟩, by decide⟩
theorem mo_Cache_makeRoom : xk_mok m_Cache_makeRoom 0 := ⟨rfl, by decide, (xk_in (List.mem_of_getElem? (i := 370) (by decide +kernel)) rfl), (xk_in (List.mem_of_getElem? (i := 37) (by decide +kernel)) rfl), ⟨by decide, by decide⟩, by decide +kernel⟩
theorem cz_Cache_makeRoom : xk_CV m_Cache_makeRoom 1 0 := ⟨mo_Cache_makeRoom, (xk_in (List.mem_of_getElem? (i := 369) (by decide +kernel)) rfl), (xk_in (List.mem_of_getElem? (i := 10) (by decide +kernel)) rfl), ⟨_, rfl, rfl⟩, by decide⟩
theorem mo_Cache_writeOut : xk_mok m_Cache_writeOut 1 := ⟨rfl, by decide, (xk_in (List.mem_of_getElem? (i := 374) (by decide +kernel)) rfl), (xk_in (List.mem_of_getElem? (i := 37) (by decide +kernel)) rfl), ⟨by decide, by decide⟩, by decide +kernel⟩
theorem cz_Cache_writeOut : xk_CV m_Cache_writeOut 1 1 := ⟨mo_Cache_writeOut, (xk_in (List.mem_of_getElem? (i := 373) (by decide +kernel)) rfl), (xk_in (List.mem_of_getElem? (i := 11) (by decide +kernel)) rfl), ⟨_, rfl, rfl⟩, by decide⟩
theorem mo_Host_writeBlock : xk_mok m_Host_writeBlock 4 := ⟨rfl, by decide, (xk_in (List.mem_of_getElem? (i := 378) (by decide +kernel)) rfl), (xk_in (List.mem_of_getElem? (i := 36) (by decide +kernel)) rfl), ⟨by decide, by decide⟩, by decide +kernel⟩
theorem cz_Host_writeBlock : xk_CV m_Host_writeBlock 2 4 := ⟨mo_Host_writeBlock, (xk_in (List.mem_of_getElem? (i := 376) (by decide +kernel)) rfl), (xk_in (List.mem_of_getElem? (i := 377) (by decide +kernel)) rfl), ⟨_, rfl, rfl⟩, by decide⟩
theorem mo_Cache_bringIn : xk_mok m_Cache_bringIn 2 := ⟨rfl, by decide, (xk_in (List.mem_of_getElem? (i := 388) (by decide +kernel)) rfl), (xk_in (List.mem_of_getElem? (i := 37) (by decide +kernel)) rfl), ⟨by decide, by decide⟩, by decide +kernel⟩
theorem cz_Cache_bringIn : xk_CV m_Cache_bringIn 1 2 := ⟨mo_Cache_bringIn, (xk_in (List.mem_of_getElem? (i := 387) (by decide +kernel)) rfl), (xk_in (List.mem_of_getElem? (i := 12) (by decide +kernel)) rfl), ⟨_, rfl, rfl⟩, by decide⟩
theorem mo_Host_readBlock : xk_mok m_Host_readBlock 3 := ⟨rfl, by decide, (xk_in (List.mem_of_getElem? (i := 393) (by decide +kernel)) rfl), (xk_in (List.mem_of_getElem? (i := 36) (by decide +kernel)) rfl), ⟨by decide, by decide⟩, by decide +kernel⟩
theorem cz_Host_readBlock : xk_CV m_Host_readBlock 2 3 := ⟨mo_Host_readBlock, (xk_in (List.mem_of_getElem? (i := 391) (by decide +kernel)) rfl), (xk_in (List.mem_of_getElem? (i := 392) (by decide +kernel)) rfl), ⟨_, rfl, rfl⟩, by decide⟩
theorem mo_Pipe_takeCell : xk_mok m_Pipe_takeCell 0 := ⟨rfl, by decide, (xk_in (List.mem_of_getElem? (i := 400) (by decide +kernel)) rfl), (xk_in (List.mem_of_getElem? (i := 43) (by decide +kernel)) rfl), ⟨by decide, by decide⟩, by decide +kernel⟩
theorem cz_Pipe_takeCell : xk_CV m_Pipe_takeCell 4 0 := ⟨mo_Pipe_takeCell, (xk_in (List.mem_of_getElem? (i := 398) (by decide +kernel)) rfl), (xk_in (List.mem_of_getElem? (i := 399) (by decide +kernel)) rfl), ⟨_, rfl, rfl⟩, by decide⟩
theorem mo_K_write : xk_mok m_K_write 3 := ⟨rfl, by decide, (xk_in (List.mem_of_getElem? (i := 404) (by decide +kernel)) rfl), (xk_in (List.mem_of_getElem? (i := 35) (by decide +kernel)) rfl), ⟨by decide, by decide⟩, by decide +kernel⟩
theorem cz_K_write : xk_CV m_K_write 6 3 := ⟨mo_K_write, (xk_in (List.mem_of_getElem? (i := 402) (by decide +kernel)) rfl), (xk_in (List.mem_of_getElem? (i := 403) (by decide +kernel)) rfl), ⟨_, rfl, rfl⟩, by decide⟩
theorem mo_K_writeFile : xk_mok m_K_writeFile 2 := ⟨rfl, by decide, (xk_in (List.mem_of_getElem? (i := 408) (by decide +kernel)) rfl), (xk_in (List.mem_of_getElem? (i := 35) (by decide +kernel)) rfl), ⟨by decide, by decide⟩, by decide +kernel⟩
theorem cz_K_writeFile : xk_CV m_K_writeFile 6 2 := ⟨mo_K_writeFile, (xk_in (List.mem_of_getElem? (i := 407) (by decide +kernel)) rfl), (xk_in (List.mem_of_getElem? (i := 13) (by decide +kernel)) rfl), ⟨_, rfl, rfl⟩, by decide⟩
theorem mo_Pipe_addCell : xk_mok m_Pipe_addCell 1 := ⟨rfl, by decide, (xk_in (List.mem_of_getElem? (i := 413) (by decide +kernel)) rfl), (xk_in (List.mem_of_getElem? (i := 43) (by decide +kernel)) rfl), ⟨by decide, by decide⟩, by decide +kernel⟩
theorem cz_Pipe_addCell : xk_CV m_Pipe_addCell 4 1 := ⟨mo_Pipe_addCell, (xk_in (List.mem_of_getElem? (i := 411) (by decide +kernel)) rfl), (xk_in (List.mem_of_getElem? (i := 412) (by decide +kernel)) rfl), ⟨_, rfl, rfl⟩, by decide⟩
theorem mo_K_seek : xk_mok m_K_seek 3 := ⟨rfl, by decide, (xk_in (List.mem_of_getElem? (i := 417) (by decide +kernel)) rfl), (xk_in (List.mem_of_getElem? (i := 35) (by decide +kernel)) rfl), ⟨by decide, by decide⟩, by decide +kernel⟩
theorem cz_K_seek : xk_CV m_K_seek 6 3 := ⟨mo_K_seek, (xk_in (List.mem_of_getElem? (i := 415) (by decide +kernel)) rfl), (xk_in (List.mem_of_getElem? (i := 416) (by decide +kernel)) rfl), ⟨_, rfl, rfl⟩, by decide⟩
theorem mo_K_sync : xk_mok m_K_sync 2 := ⟨rfl, by decide, (xk_in (List.mem_of_getElem? (i := 421) (by decide +kernel)) rfl), (xk_in (List.mem_of_getElem? (i := 35) (by decide +kernel)) rfl), ⟨by decide, by decide⟩, by decide +kernel⟩
theorem cz_K_sync : xk_CV m_K_sync 6 2 := ⟨mo_K_sync, (xk_in (List.mem_of_getElem? (i := 419) (by decide +kernel)) rfl), (xk_in (List.mem_of_getElem? (i := 420) (by decide +kernel)) rfl), ⟨_, rfl, rfl⟩, by decide⟩
theorem mo_Cache_writeFileOut : xk_mok m_Cache_writeFileOut 1 := ⟨rfl, by decide, (xk_in (List.mem_of_getElem? (i := 425) (by decide +kernel)) rfl), (xk_in (List.mem_of_getElem? (i := 37) (by decide +kernel)) rfl), ⟨by decide, by decide⟩, by decide +kernel⟩
theorem cz_Cache_writeFileOut : xk_CV m_Cache_writeFileOut 1 1 := ⟨mo_Cache_writeFileOut, (xk_in (List.mem_of_getElem? (i := 423) (by decide +kernel)) rfl), (xk_in (List.mem_of_getElem? (i := 424) (by decide +kernel)) rfl), ⟨_, rfl, rfl⟩, by decide⟩
theorem mo_K_dup : xk_mok m_K_dup 2 := ⟨rfl, by decide, (xk_in (List.mem_of_getElem? (i := 429) (by decide +kernel)) rfl), (xk_in (List.mem_of_getElem? (i := 35) (by decide +kernel)) rfl), ⟨by decide, by decide⟩, by decide +kernel⟩
theorem cz_K_dup : xk_CV m_K_dup 6 2 := ⟨mo_K_dup, (xk_in (List.mem_of_getElem? (i := 427) (by decide +kernel)) rfl), (xk_in (List.mem_of_getElem? (i := 428) (by decide +kernel)) rfl), ⟨_, rfl, rfl⟩, by decide⟩
theorem mo_K_close : xk_mok m_K_close 2 := ⟨rfl, by decide, (xk_in (List.mem_of_getElem? (i := 433) (by decide +kernel)) rfl), (xk_in (List.mem_of_getElem? (i := 35) (by decide +kernel)) rfl), ⟨by decide, by decide⟩, by decide +kernel⟩
theorem cz_K_close : xk_CV m_K_close 6 2 := ⟨mo_K_close, (xk_in (List.mem_of_getElem? (i := 431) (by decide +kernel)) rfl), (xk_in (List.mem_of_getElem? (i := 432) (by decide +kernel)) rfl), ⟨_, rfl, rfl⟩, by decide⟩
theorem mo_Task_letGo : xk_mok m_Task_letGo 1 := ⟨rfl, by decide, (xk_in (List.mem_of_getElem? (i := 437) (by decide +kernel)) rfl), (xk_in (List.mem_of_getElem? (i := 41) (by decide +kernel)) rfl), ⟨by decide, by decide⟩, by decide +kernel⟩
theorem cz_Task_letGo : xk_CV m_Task_letGo 5 1 := ⟨mo_Task_letGo, (xk_in (List.mem_of_getElem? (i := 435) (by decide +kernel)) rfl), (xk_in (List.mem_of_getElem? (i := 436) (by decide +kernel)) rfl), ⟨_, rfl, rfl⟩, by decide⟩
theorem mo_Opening_loseHolder : xk_mok m_Opening_loseHolder 0 := ⟨rfl, by decide, (xk_in (List.mem_of_getElem? (i := 441) (by decide +kernel)) rfl), (xk_in (List.mem_of_getElem? (i := 40) (by decide +kernel)) rfl), ⟨by decide, by decide⟩, by decide +kernel⟩
theorem cz_Opening_loseHolder : xk_CV m_Opening_loseHolder 3 0 := ⟨mo_Opening_loseHolder, (xk_in (List.mem_of_getElem? (i := 439) (by decide +kernel)) rfl), (xk_in (List.mem_of_getElem? (i := 440) (by decide +kernel)) rfl), ⟨_, rfl, rfl⟩, by decide⟩
theorem mo_Opening_leavePipe : xk_mok m_Opening_leavePipe 1 := ⟨rfl, by decide, (xk_in (List.mem_of_getElem? (i := 445) (by decide +kernel)) rfl), (xk_in (List.mem_of_getElem? (i := 40) (by decide +kernel)) rfl), ⟨by decide, by decide⟩, by decide +kernel⟩
theorem cz_Opening_leavePipe : xk_CV m_Opening_leavePipe 3 1 := ⟨mo_Opening_leavePipe, (xk_in (List.mem_of_getElem? (i := 444) (by decide +kernel)) rfl), (xk_in (List.mem_of_getElem? (i := 14) (by decide +kernel)) rfl), ⟨_, rfl, rfl⟩, by decide⟩
theorem mo_K_unlink : xk_mok m_K_unlink 2 := ⟨rfl, by decide, (xk_in (List.mem_of_getElem? (i := 450) (by decide +kernel)) rfl), (xk_in (List.mem_of_getElem? (i := 35) (by decide +kernel)) rfl), ⟨by decide, by decide⟩, by decide +kernel⟩
theorem cz_K_unlink : xk_CV m_K_unlink 6 2 := ⟨mo_K_unlink, (xk_in (List.mem_of_getElem? (i := 448) (by decide +kernel)) rfl), (xk_in (List.mem_of_getElem? (i := 449) (by decide +kernel)) rfl), ⟨_, rfl, rfl⟩, by decide⟩
theorem mo_Host_removeFile : xk_mok m_Host_removeFile 1 := ⟨rfl, by decide, (xk_in (List.mem_of_getElem? (i := 454) (by decide +kernel)) rfl), (xk_in (List.mem_of_getElem? (i := 36) (by decide +kernel)) rfl), ⟨by decide, by decide⟩, by decide +kernel⟩
theorem cz_Host_removeFile : xk_CV m_Host_removeFile 2 1 := ⟨mo_Host_removeFile, (xk_in (List.mem_of_getElem? (i := 452) (by decide +kernel)) rfl), (xk_in (List.mem_of_getElem? (i := 453) (by decide +kernel)) rfl), ⟨_, rfl, rfl⟩, by decide⟩
theorem mo_K_fork : xk_mok m_K_fork 1 := ⟨rfl, by decide, (xk_in (List.mem_of_getElem? (i := 458) (by decide +kernel)) rfl), (xk_in (List.mem_of_getElem? (i := 35) (by decide +kernel)) rfl), ⟨by decide, by decide⟩, by decide +kernel⟩
theorem cz_K_fork : xk_CV m_K_fork 6 1 := ⟨mo_K_fork, (xk_in (List.mem_of_getElem? (i := 456) (by decide +kernel)) rfl), (xk_in (List.mem_of_getElem? (i := 457) (by decide +kernel)) rfl), ⟨_, rfl, rfl⟩, by decide⟩
theorem mo_K_leastNotThere : xk_mok m_K_leastNotThere 0 := ⟨rfl, by decide, (xk_in (List.mem_of_getElem? (i := 462) (by decide +kernel)) rfl), (xk_in (List.mem_of_getElem? (i := 35) (by decide +kernel)) rfl), ⟨by decide, by decide⟩, by decide +kernel⟩
theorem cz_K_leastNotThere : xk_CV m_K_leastNotThere 6 0 := ⟨mo_K_leastNotThere, (xk_in (List.mem_of_getElem? (i := 461) (by decide +kernel)) rfl), (xk_in (List.mem_of_getElem? (i := 15) (by decide +kernel)) rfl), ⟨_, rfl, rfl⟩, by decide⟩
theorem mo_Task_shareAllOf : xk_mok m_Task_shareAllOf 1 := ⟨rfl, by decide, (xk_in (List.mem_of_getElem? (i := 466) (by decide +kernel)) rfl), (xk_in (List.mem_of_getElem? (i := 41) (by decide +kernel)) rfl), ⟨by decide, by decide⟩, by decide +kernel⟩
theorem cz_Task_shareAllOf : xk_CV m_Task_shareAllOf 5 1 := ⟨mo_Task_shareAllOf, (xk_in (List.mem_of_getElem? (i := 464) (by decide +kernel)) rfl), (xk_in (List.mem_of_getElem? (i := 465) (by decide +kernel)) rfl), ⟨_, rfl, rfl⟩, by decide⟩
theorem mo_K_exit : xk_mok m_K_exit 2 := ⟨rfl, by decide, (xk_in (List.mem_of_getElem? (i := 471) (by decide +kernel)) rfl), (xk_in (List.mem_of_getElem? (i := 35) (by decide +kernel)) rfl), ⟨by decide, by decide⟩, by decide +kernel⟩
theorem cz_K_exit : xk_CV m_K_exit 6 2 := ⟨mo_K_exit, (xk_in (List.mem_of_getElem? (i := 469) (by decide +kernel)) rfl), (xk_in (List.mem_of_getElem? (i := 470) (by decide +kernel)) rfl), ⟨_, rfl, rfl⟩, by decide⟩
theorem mo_Task_finish : xk_mok m_Task_finish 1 := ⟨rfl, by decide, (xk_in (List.mem_of_getElem? (i := 475) (by decide +kernel)) rfl), (xk_in (List.mem_of_getElem? (i := 41) (by decide +kernel)) rfl), ⟨by decide, by decide⟩, by decide +kernel⟩
theorem cz_Task_finish : xk_CV m_Task_finish 5 1 := ⟨mo_Task_finish, (xk_in (List.mem_of_getElem? (i := 473) (by decide +kernel)) rfl), (xk_in (List.mem_of_getElem? (i := 474) (by decide +kernel)) rfl), ⟨_, rfl, rfl⟩, by decide⟩
theorem mo_Task_letGoAll : xk_mok m_Task_letGoAll 0 := ⟨rfl, by decide, (xk_in (List.mem_of_getElem? (i := 479) (by decide +kernel)) rfl), (xk_in (List.mem_of_getElem? (i := 41) (by decide +kernel)) rfl), ⟨by decide, by decide⟩, by decide +kernel⟩
theorem cz_Task_letGoAll : xk_CV m_Task_letGoAll 5 0 := ⟨mo_Task_letGoAll, (xk_in (List.mem_of_getElem? (i := 478) (by decide +kernel)) rfl), (xk_in (List.mem_of_getElem? (i := 16) (by decide +kernel)) rfl), ⟨_, rfl, rfl⟩, by decide⟩
theorem mo_Task_isChildOf : xk_mok m_Task_isChildOf 1 := ⟨rfl, by decide, (xk_in (List.mem_of_getElem? (i := 484) (by decide +kernel)) rfl), (xk_in (List.mem_of_getElem? (i := 41) (by decide +kernel)) rfl), ⟨by decide, by decide⟩, by decide +kernel⟩
theorem cz_Task_isChildOf : xk_CV m_Task_isChildOf 5 1 := ⟨mo_Task_isChildOf, (xk_in (List.mem_of_getElem? (i := 482) (by decide +kernel)) rfl), (xk_in (List.mem_of_getElem? (i := 483) (by decide +kernel)) rfl), ⟨_, rfl, rfl⟩, by decide⟩
theorem mo_K_wait : xk_mok m_K_wait 1 := ⟨rfl, by decide, (xk_in (List.mem_of_getElem? (i := 488) (by decide +kernel)) rfl), (xk_in (List.mem_of_getElem? (i := 35) (by decide +kernel)) rfl), ⟨by decide, by decide⟩, by decide +kernel⟩
theorem cz_K_wait : xk_CV m_K_wait 6 1 := ⟨mo_K_wait, (xk_in (List.mem_of_getElem? (i := 486) (by decide +kernel)) rfl), (xk_in (List.mem_of_getElem? (i := 487) (by decide +kernel)) rfl), ⟨_, rfl, rfl⟩, by decide⟩
theorem mo_Task_vanish : xk_mok m_Task_vanish 0 := ⟨rfl, by decide, (xk_in (List.mem_of_getElem? (i := 492) (by decide +kernel)) rfl), (xk_in (List.mem_of_getElem? (i := 41) (by decide +kernel)) rfl), ⟨by decide, by decide⟩, by decide +kernel⟩
theorem cz_Task_vanish : xk_CV m_Task_vanish 5 0 := ⟨mo_Task_vanish, (xk_in (List.mem_of_getElem? (i := 490) (by decide +kernel)) rfl), (xk_in (List.mem_of_getElem? (i := 491) (by decide +kernel)) rfl), ⟨_, rfl, rfl⟩, by decide⟩
theorem mo_K_crash : xk_mok m_K_crash 0 := ⟨rfl, by decide, (xk_in (List.mem_of_getElem? (i := 496) (by decide +kernel)) rfl), (xk_in (List.mem_of_getElem? (i := 35) (by decide +kernel)) rfl), ⟨by decide, by decide⟩, by decide +kernel⟩
theorem cz_K_crash : xk_CV m_K_crash 6 0 := ⟨mo_K_crash, (xk_in (List.mem_of_getElem? (i := 494) (by decide +kernel)) rfl), (xk_in (List.mem_of_getElem? (i := 495) (by decide +kernel)) rfl), ⟨_, rfl, rfl⟩, by decide⟩
theorem mo_Cache_startAnew : xk_mok m_Cache_startAnew 0 := ⟨rfl, by decide, (xk_in (List.mem_of_getElem? (i := 500) (by decide +kernel)) rfl), (xk_in (List.mem_of_getElem? (i := 37) (by decide +kernel)) rfl), ⟨by decide, by decide⟩, by decide +kernel⟩
theorem cz_Cache_startAnew : xk_CV m_Cache_startAnew 1 0 := ⟨mo_Cache_startAnew, (xk_in (List.mem_of_getElem? (i := 498) (by decide +kernel)) rfl), (xk_in (List.mem_of_getElem? (i := 499) (by decide +kernel)) rfl), ⟨_, rfl, rfl⟩, by decide⟩
theorem mo_Host_lengthOf : xk_mok m_Host_lengthOf 1 := ⟨rfl, by decide, (xk_in (List.mem_of_getElem? (i := 504) (by decide +kernel)) rfl), (xk_in (List.mem_of_getElem? (i := 36) (by decide +kernel)) rfl), ⟨by decide, by decide⟩, by decide +kernel⟩
theorem cz_Host_lengthOf : xk_CV m_Host_lengthOf 2 1 := ⟨mo_Host_lengthOf, (xk_in (List.mem_of_getElem? (i := 502) (by decide +kernel)) rfl), (xk_in (List.mem_of_getElem? (i := 503) (by decide +kernel)) rfl), ⟨_, rfl, rfl⟩, by decide⟩
theorem mo_K_host : xk_mok m_K_host 2 := ⟨rfl, by decide, (xk_in (List.mem_of_getElem? (i := 508) (by decide +kernel)) rfl), (xk_in (List.mem_of_getElem? (i := 35) (by decide +kernel)) rfl), ⟨by decide, by decide⟩, by decide +kernel⟩
theorem cz_K_host : xk_CV m_K_host 6 2 := ⟨mo_K_host, (xk_in (List.mem_of_getElem? (i := 506) (by decide +kernel)) rfl), (xk_in (List.mem_of_getElem? (i := 507) (by decide +kernel)) rfl), ⟨_, rfl, rfl⟩, by decide⟩
theorem mo_Host_cellAt : xk_mok m_Host_cellAt 2 := ⟨rfl, by decide, (xk_in (List.mem_of_getElem? (i := 513) (by decide +kernel)) rfl), (xk_in (List.mem_of_getElem? (i := 36) (by decide +kernel)) rfl), ⟨by decide, by decide⟩, by decide +kernel⟩
theorem cz_Host_cellAt : xk_CV m_Host_cellAt 2 2 := ⟨mo_Host_cellAt, (xk_in (List.mem_of_getElem? (i := 511) (by decide +kernel)) rfl), (xk_in (List.mem_of_getElem? (i := 512) (by decide +kernel)) rfl), ⟨_, rfl, rfl⟩, by decide⟩
theorem mo_K_log : xk_mok m_K_log 1 := ⟨rfl, by decide, (xk_in (List.mem_of_getElem? (i := 517) (by decide +kernel)) rfl), (xk_in (List.mem_of_getElem? (i := 35) (by decide +kernel)) rfl), ⟨by decide, by decide⟩, by decide +kernel⟩
theorem cz_K_log : xk_CV m_K_log 6 1 := ⟨mo_K_log, (xk_in (List.mem_of_getElem? (i := 515) (by decide +kernel)) rfl), (xk_in (List.mem_of_getElem? (i := 516) (by decide +kernel)) rfl), ⟨_, rfl, rfl⟩, by decide⟩
theorem mo_Host_operations : xk_mok m_Host_operations 0 := ⟨rfl, by decide, (xk_in (List.mem_of_getElem? (i := 521) (by decide +kernel)) rfl), (xk_in (List.mem_of_getElem? (i := 36) (by decide +kernel)) rfl), ⟨by decide, by decide⟩, by decide +kernel⟩
theorem cz_Host_operations : xk_CV m_Host_operations 2 0 := ⟨mo_Host_operations, (xk_in (List.mem_of_getElem? (i := 519) (by decide +kernel)) rfl), (xk_in (List.mem_of_getElem? (i := 520) (by decide +kernel)) rfl), ⟨_, rfl, rfl⟩, by decide⟩
theorem mo_Host_entryAt : xk_mok m_Host_entryAt 1 := ⟨rfl, by decide, (xk_in (List.mem_of_getElem? (i := 526) (by decide +kernel)) rfl), (xk_in (List.mem_of_getElem? (i := 36) (by decide +kernel)) rfl), ⟨by decide, by decide⟩, by decide +kernel⟩
theorem cz_Host_entryAt : xk_CV m_Host_entryAt 2 1 := ⟨mo_Host_entryAt, (xk_in (List.mem_of_getElem? (i := 524) (by decide +kernel)) rfl), (xk_in (List.mem_of_getElem? (i := 525) (by decide +kernel)) rfl), ⟨_, rfl, rfl⟩, by decide⟩
theorem mo_K_cached : xk_mok m_K_cached 1 := ⟨rfl, by decide, (xk_in (List.mem_of_getElem? (i := 530) (by decide +kernel)) rfl), (xk_in (List.mem_of_getElem? (i := 35) (by decide +kernel)) rfl), ⟨by decide, by decide⟩, by decide +kernel⟩
theorem cz_K_cached : xk_CV m_K_cached 6 1 := ⟨mo_K_cached, (xk_in (List.mem_of_getElem? (i := 528) (by decide +kernel)) rfl), (xk_in (List.mem_of_getElem? (i := 529) (by decide +kernel)) rfl), ⟨_, rfl, rfl⟩, by decide⟩
theorem mo_Cache_size : xk_mok m_Cache_size 0 := ⟨rfl, by decide, (xk_in (List.mem_of_getElem? (i := 534) (by decide +kernel)) rfl), (xk_in (List.mem_of_getElem? (i := 37) (by decide +kernel)) rfl), ⟨by decide, by decide⟩, by decide +kernel⟩
theorem cz_Cache_size : xk_CV m_Cache_size 1 0 := ⟨mo_Cache_size, (xk_in (List.mem_of_getElem? (i := 532) (by decide +kernel)) rfl), (xk_in (List.mem_of_getElem? (i := 533) (by decide +kernel)) rfl), ⟨_, rfl, rfl⟩, by decide⟩
theorem mo_Cache_blockAt : xk_mok m_Cache_blockAt 1 := ⟨rfl, by decide, (xk_in (List.mem_of_getElem? (i := 538) (by decide +kernel)) rfl), (xk_in (List.mem_of_getElem? (i := 37) (by decide +kernel)) rfl), ⟨by decide, by decide⟩, by decide +kernel⟩
theorem cz_Cache_blockAt : xk_CV m_Cache_blockAt 1 1 := ⟨mo_Cache_blockAt, (xk_in (List.mem_of_getElem? (i := 536) (by decide +kernel)) rfl), (xk_in (List.mem_of_getElem? (i := 537) (by decide +kernel)) rfl), ⟨_, rfl, rfl⟩, by decide⟩
theorem mo_Block_describe : xk_mok m_Block_describe 0 := ⟨rfl, by decide, (xk_in (List.mem_of_getElem? (i := 542) (by decide +kernel)) rfl), (xk_in (List.mem_of_getElem? (i := 38) (by decide +kernel)) rfl), ⟨by decide, by decide⟩, by decide +kernel⟩
theorem cz_Block_describe : xk_CV m_Block_describe 0 0 := ⟨mo_Block_describe, (xk_in (List.mem_of_getElem? (i := 540) (by decide +kernel)) rfl), (xk_in (List.mem_of_getElem? (i := 541) (by decide +kernel)) rfl), ⟨_, rfl, rfl⟩, by decide⟩
theorem mo_K_count : xk_mok m_K_count 1 := ⟨rfl, by decide, (xk_in (List.mem_of_getElem? (i := 546) (by decide +kernel)) rfl), (xk_in (List.mem_of_getElem? (i := 35) (by decide +kernel)) rfl), ⟨by decide, by decide⟩, by decide +kernel⟩
theorem cz_K_count : xk_CV m_K_count 6 1 := ⟨mo_K_count, (xk_in (List.mem_of_getElem? (i := 544) (by decide +kernel)) rfl), (xk_in (List.mem_of_getElem? (i := 545) (by decide +kernel)) rfl), ⟨_, rfl, rfl⟩, by decide⟩
theorem mo_K_openingsThere : xk_mok m_K_openingsThere 0 := ⟨rfl, by decide, (xk_in (List.mem_of_getElem? (i := 550) (by decide +kernel)) rfl), (xk_in (List.mem_of_getElem? (i := 35) (by decide +kernel)) rfl), ⟨by decide, by decide⟩, by decide +kernel⟩
theorem cz_K_openingsThere : xk_CV m_K_openingsThere 6 0 := ⟨mo_K_openingsThere, (xk_in (List.mem_of_getElem? (i := 549) (by decide +kernel)) rfl), (xk_in (List.mem_of_getElem? (i := 17) (by decide +kernel)) rfl), ⟨_, rfl, rfl⟩, by decide⟩
theorem mo_K_tasksThere : xk_mok m_K_tasksThere 0 := ⟨rfl, by decide, (xk_in (List.mem_of_getElem? (i := 554) (by decide +kernel)) rfl), (xk_in (List.mem_of_getElem? (i := 35) (by decide +kernel)) rfl), ⟨by decide, by decide⟩, by decide +kernel⟩
theorem cz_K_tasksThere : xk_CV m_K_tasksThere 6 0 := ⟨mo_K_tasksThere, (xk_in (List.mem_of_getElem? (i := 553) (by decide +kernel)) rfl), (xk_in (List.mem_of_getElem? (i := 18) (by decide +kernel)) rfl), ⟨_, rfl, rfl⟩, by decide⟩
theorem mo_Cache_dirtyBlocks : xk_mok m_Cache_dirtyBlocks 0 := ⟨rfl, by decide, (xk_in (List.mem_of_getElem? (i := 558) (by decide +kernel)) rfl), (xk_in (List.mem_of_getElem? (i := 37) (by decide +kernel)) rfl), ⟨by decide, by decide⟩, by decide +kernel⟩
theorem cz_Cache_dirtyBlocks : xk_CV m_Cache_dirtyBlocks 1 0 := ⟨mo_Cache_dirtyBlocks, (xk_in (List.mem_of_getElem? (i := 556) (by decide +kernel)) rfl), (xk_in (List.mem_of_getElem? (i := 557) (by decide +kernel)) rfl), ⟨_, rfl, rfl⟩, by decide⟩
theorem mo_Host_leftToFail : xk_mok m_Host_leftToFail 0 := ⟨rfl, by decide, (xk_in (List.mem_of_getElem? (i := 562) (by decide +kernel)) rfl), (xk_in (List.mem_of_getElem? (i := 36) (by decide +kernel)) rfl), ⟨by decide, by decide⟩, by decide +kernel⟩
theorem cz_Host_leftToFail : xk_CV m_Host_leftToFail 2 0 := ⟨mo_Host_leftToFail, (xk_in (List.mem_of_getElem? (i := 560) (by decide +kernel)) rfl), (xk_in (List.mem_of_getElem? (i := 561) (by decide +kernel)) rfl), ⟨_, rfl, rfl⟩, by decide⟩
theorem mo_M_init : xk_mok m_M_init 0 := ⟨rfl, by decide, (xk_in (List.mem_of_getElem? (i := 567) (by decide +kernel)) rfl), (xk_in (List.mem_of_getElem? (i := 42) (by decide +kernel)) rfl), ⟨by decide, by decide⟩, by decide +kernel⟩
theorem cz_M_init : xk_CI m_M_init 0 := ⟨mo_M_init, rfl, rfl, (xk_in (List.mem_of_getElem? (i := 566) (by decide +kernel)) rfl), by decide⟩
theorem mo_M_reborn : xk_mok m_M_reborn 0 := ⟨rfl, by decide, (xk_in (List.mem_of_getElem? (i := 572) (by decide +kernel)) rfl), (xk_in (List.mem_of_getElem? (i := 42) (by decide +kernel)) rfl), ⟨by decide, by decide⟩, by decide +kernel⟩
theorem cz_M_reborn : xk_CV m_M_reborn 7 0 := ⟨mo_M_reborn, (xk_in (List.mem_of_getElem? (i := 571) (by decide +kernel)) rfl), (xk_in (List.mem_of_getElem? (i := 19) (by decide +kernel)) rfl), ⟨_, rfl, rfl⟩, by decide⟩
theorem mo_M_put : xk_mok m_M_put 3 := ⟨rfl, by decide, (xk_in (List.mem_of_getElem? (i := 646) (by decide +kernel)) rfl), (xk_in (List.mem_of_getElem? (i := 42) (by decide +kernel)) rfl), ⟨by decide, by decide⟩, by decide +kernel⟩
theorem cz_M_put : xk_CV m_M_put 7 3 := ⟨mo_M_put, (xk_in (List.mem_of_getElem? (i := 644) (by decide +kernel)) rfl), (xk_in (List.mem_of_getElem? (i := 645) (by decide +kernel)) rfl), ⟨_, rfl, rfl⟩, by decide⟩
theorem mo_M_in : xk_mok m_M_in 3 := ⟨rfl, by decide, (xk_in (List.mem_of_getElem? (i := 649) (by decide +kernel)) rfl), (xk_in (List.mem_of_getElem? (i := 42) (by decide +kernel)) rfl), ⟨by decide, by decide⟩, by decide +kernel⟩
theorem cz_M_in : xk_CS m_M_in 3 := ⟨mo_M_in, (xk_in (List.mem_of_getElem? (i := 648) (by decide +kernel)) rfl), by decide⟩
theorem mo_M_openFile : xk_mok m_M_openFile 1 := ⟨rfl, by decide, (xk_in (List.mem_of_getElem? (i := 653) (by decide +kernel)) rfl), (xk_in (List.mem_of_getElem? (i := 42) (by decide +kernel)) rfl), ⟨by decide, by decide⟩, by decide +kernel⟩
theorem cz_M_openFile : xk_CV m_M_openFile 7 1 := ⟨mo_M_openFile, (xk_in (List.mem_of_getElem? (i := 652) (by decide +kernel)) rfl), (xk_in (List.mem_of_getElem? (i := 20) (by decide +kernel)) rfl), ⟨_, rfl, rfl⟩, by decide⟩
theorem mo_M_used : xk_mok m_M_used 1 := ⟨rfl, by decide, (xk_in (List.mem_of_getElem? (i := 657) (by decide +kernel)) rfl), (xk_in (List.mem_of_getElem? (i := 42) (by decide +kernel)) rfl), ⟨by decide, by decide⟩, by decide +kernel⟩
theorem cz_M_used : xk_CV m_M_used 7 1 := ⟨mo_M_used, (xk_in (List.mem_of_getElem? (i := 656) (by decide +kernel)) rfl), (xk_in (List.mem_of_getElem? (i := 21) (by decide +kernel)) rfl), ⟨_, rfl, rfl⟩, by decide⟩
theorem mo_M_wipeHost : xk_mok m_M_wipeHost 1 := ⟨rfl, by decide, (xk_in (List.mem_of_getElem? (i := 661) (by decide +kernel)) rfl), (xk_in (List.mem_of_getElem? (i := 42) (by decide +kernel)) rfl), ⟨by decide, by decide⟩, by decide +kernel⟩
theorem cz_M_wipeHost : xk_CV m_M_wipeHost 7 1 := ⟨mo_M_wipeHost, (xk_in (List.mem_of_getElem? (i := 660) (by decide +kernel)) rfl), (xk_in (List.mem_of_getElem? (i := 22) (by decide +kernel)) rfl), ⟨_, rfl, rfl⟩, by decide⟩
theorem mo_M_policy : xk_mok m_M_policy 2 := ⟨rfl, by decide, (xk_in (List.mem_of_getElem? (i := 665) (by decide +kernel)) rfl), (xk_in (List.mem_of_getElem? (i := 42) (by decide +kernel)) rfl), ⟨by decide, by decide⟩, by decide +kernel⟩
theorem cz_M_policy : xk_CV m_M_policy 7 2 := ⟨mo_M_policy, (xk_in (List.mem_of_getElem? (i := 663) (by decide +kernel)) rfl), (xk_in (List.mem_of_getElem? (i := 664) (by decide +kernel)) rfl), ⟨_, rfl, rfl⟩, by decide⟩
theorem mo_M_failing : xk_mok m_M_failing 1 := ⟨rfl, by decide, (xk_in (List.mem_of_getElem? (i := 669) (by decide +kernel)) rfl), (xk_in (List.mem_of_getElem? (i := 42) (by decide +kernel)) rfl), ⟨by decide, by decide⟩, by decide +kernel⟩
theorem cz_M_failing : xk_CV m_M_failing 7 1 := ⟨mo_M_failing, (xk_in (List.mem_of_getElem? (i := 667) (by decide +kernel)) rfl), (xk_in (List.mem_of_getElem? (i := 668) (by decide +kernel)) rfl), ⟨_, rfl, rfl⟩, by decide⟩
theorem mo_M_open : xk_mok m_M_open 3 := ⟨rfl, by decide, (xk_in (List.mem_of_getElem? (i := 673) (by decide +kernel)) rfl), (xk_in (List.mem_of_getElem? (i := 42) (by decide +kernel)) rfl), ⟨by decide, by decide⟩, by decide +kernel⟩
theorem cz_M_open : xk_CV m_M_open 7 3 := ⟨mo_M_open, (xk_in (List.mem_of_getElem? (i := 671) (by decide +kernel)) rfl), (xk_in (List.mem_of_getElem? (i := 672) (by decide +kernel)) rfl), ⟨_, rfl, rfl⟩, by decide⟩
theorem mo_M_alive : xk_mok m_M_alive 1 := ⟨rfl, by decide, (xk_in (List.mem_of_getElem? (i := 677) (by decide +kernel)) rfl), (xk_in (List.mem_of_getElem? (i := 42) (by decide +kernel)) rfl), ⟨by decide, by decide⟩, by decide +kernel⟩
theorem cz_M_alive : xk_CV m_M_alive 7 1 := ⟨mo_M_alive, (xk_in (List.mem_of_getElem? (i := 676) (by decide +kernel)) rfl), (xk_in (List.mem_of_getElem? (i := 23) (by decide +kernel)) rfl), ⟨_, rfl, rfl⟩, by decide⟩
theorem mo_M_free : xk_mok m_M_free 2 := ⟨rfl, by decide, (xk_in (List.mem_of_getElem? (i := 681) (by decide +kernel)) rfl), (xk_in (List.mem_of_getElem? (i := 42) (by decide +kernel)) rfl), ⟨by decide, by decide⟩, by decide +kernel⟩
theorem cz_M_free : xk_CV m_M_free 7 2 := ⟨mo_M_free, (xk_in (List.mem_of_getElem? (i := 680) (by decide +kernel)) rfl), (xk_in (List.mem_of_getElem? (i := 24) (by decide +kernel)) rfl), ⟨_, rfl, rfl⟩, by decide⟩
theorem mo_M_openings : xk_mok m_M_openings 0 := ⟨rfl, by decide, (xk_in (List.mem_of_getElem? (i := 685) (by decide +kernel)) rfl), (xk_in (List.mem_of_getElem? (i := 42) (by decide +kernel)) rfl), ⟨by decide, by decide⟩, by decide +kernel⟩
theorem cz_M_openings : xk_CV m_M_openings 7 0 := ⟨mo_M_openings, (xk_in (List.mem_of_getElem? (i := 684) (by decide +kernel)) rfl), (xk_in (List.mem_of_getElem? (i := 25) (by decide +kernel)) rfl), ⟨_, rfl, rfl⟩, by decide⟩
theorem mo_M_operate : xk_mok m_M_operate 3 := ⟨rfl, by decide, (xk_in (List.mem_of_getElem? (i := 689) (by decide +kernel)) rfl), (xk_in (List.mem_of_getElem? (i := 42) (by decide +kernel)) rfl), ⟨by decide, by decide⟩, by decide +kernel⟩
theorem cz_M_operate : xk_CV m_M_operate 7 3 := ⟨mo_M_operate, (xk_in (List.mem_of_getElem? (i := 688) (by decide +kernel)) rfl), (xk_in (List.mem_of_getElem? (i := 26) (by decide +kernel)) rfl), ⟨_, rfl, rfl⟩, by decide⟩
theorem mo_M_forget : xk_mok m_M_forget 1 := ⟨rfl, by decide, (xk_in (List.mem_of_getElem? (i := 693) (by decide +kernel)) rfl), (xk_in (List.mem_of_getElem? (i := 42) (by decide +kernel)) rfl), ⟨by decide, by decide⟩, by decide +kernel⟩
theorem cz_M_forget : xk_CV m_M_forget 7 1 := ⟨mo_M_forget, (xk_in (List.mem_of_getElem? (i := 692) (by decide +kernel)) rfl), (xk_in (List.mem_of_getElem? (i := 27) (by decide +kernel)) rfl), ⟨_, rfl, rfl⟩, by decide⟩
theorem mo_M_newOpening : xk_mok m_M_newOpening 3 := ⟨rfl, by decide, (xk_in (List.mem_of_getElem? (i := 697) (by decide +kernel)) rfl), (xk_in (List.mem_of_getElem? (i := 42) (by decide +kernel)) rfl), ⟨by decide, by decide⟩, by decide +kernel⟩
theorem cz_M_newOpening : xk_CV m_M_newOpening 7 3 := ⟨mo_M_newOpening, (xk_in (List.mem_of_getElem? (i := 696) (by decide +kernel)) rfl), (xk_in (List.mem_of_getElem? (i := 28) (by decide +kernel)) rfl), ⟨_, rfl, rfl⟩, by decide⟩
theorem mo_M_pipe : xk_mok m_M_pipe 1 := ⟨rfl, by decide, (xk_in (List.mem_of_getElem? (i := 701) (by decide +kernel)) rfl), (xk_in (List.mem_of_getElem? (i := 42) (by decide +kernel)) rfl), ⟨by decide, by decide⟩, by decide +kernel⟩
theorem cz_M_pipe : xk_CV m_M_pipe 7 1 := ⟨mo_M_pipe, (xk_in (List.mem_of_getElem? (i := 699) (by decide +kernel)) rfl), (xk_in (List.mem_of_getElem? (i := 700) (by decide +kernel)) rfl), ⟨_, rfl, rfl⟩, by decide⟩
theorem mo_M_hasEnd : xk_mok m_M_hasEnd 2 := ⟨rfl, by decide, (xk_in (List.mem_of_getElem? (i := 705) (by decide +kernel)) rfl), (xk_in (List.mem_of_getElem? (i := 42) (by decide +kernel)) rfl), ⟨by decide, by decide⟩, by decide +kernel⟩
theorem cz_M_hasEnd : xk_CV m_M_hasEnd 7 2 := ⟨mo_M_hasEnd, (xk_in (List.mem_of_getElem? (i := 704) (by decide +kernel)) rfl), (xk_in (List.mem_of_getElem? (i := 29) (by decide +kernel)) rfl), ⟨_, rfl, rfl⟩, by decide⟩
theorem mo_M_read : xk_mok m_M_read 2 := ⟨rfl, by decide, (xk_in (List.mem_of_getElem? (i := 709) (by decide +kernel)) rfl), (xk_in (List.mem_of_getElem? (i := 42) (by decide +kernel)) rfl), ⟨by decide, by decide⟩, by decide +kernel⟩
theorem cz_M_read : xk_CV m_M_read 7 2 := ⟨mo_M_read, (xk_in (List.mem_of_getElem? (i := 707) (by decide +kernel)) rfl), (xk_in (List.mem_of_getElem? (i := 708) (by decide +kernel)) rfl), ⟨_, rfl, rfl⟩, by decide⟩
theorem mo_M_opening : xk_mok m_M_opening 2 := ⟨rfl, by decide, (xk_in (List.mem_of_getElem? (i := 713) (by decide +kernel)) rfl), (xk_in (List.mem_of_getElem? (i := 42) (by decide +kernel)) rfl), ⟨by decide, by decide⟩, by decide +kernel⟩
theorem cz_M_opening : xk_CV m_M_opening 7 2 := ⟨mo_M_opening, (xk_in (List.mem_of_getElem? (i := 712) (by decide +kernel)) rfl), (xk_in (List.mem_of_getElem? (i := 30) (by decide +kernel)) rfl), ⟨_, rfl, rfl⟩, by decide⟩
theorem mo_M_get : xk_mok m_M_get 2 := ⟨rfl, by decide, (xk_in (List.mem_of_getElem? (i := 717) (by decide +kernel)) rfl), (xk_in (List.mem_of_getElem? (i := 42) (by decide +kernel)) rfl), ⟨by decide, by decide⟩, by decide +kernel⟩
theorem cz_M_get : xk_CV m_M_get 7 2 := ⟨mo_M_get, (xk_in (List.mem_of_getElem? (i := 716) (by decide +kernel)) rfl), (xk_in (List.mem_of_getElem? (i := 31) (by decide +kernel)) rfl), ⟨_, rfl, rfl⟩, by decide⟩
theorem mo_M_toFront : xk_mok m_M_toFront 1 := ⟨rfl, by decide, (xk_in (List.mem_of_getElem? (i := 721) (by decide +kernel)) rfl), (xk_in (List.mem_of_getElem? (i := 42) (by decide +kernel)) rfl), ⟨by decide, by decide⟩, by decide +kernel⟩
theorem cz_M_toFront : xk_CV m_M_toFront 7 1 := ⟨mo_M_toFront, (xk_in (List.mem_of_getElem? (i := 720) (by decide +kernel)) rfl), (xk_in (List.mem_of_getElem? (i := 32) (by decide +kernel)) rfl), ⟨_, rfl, rfl⟩, by decide⟩
theorem mo_M_writeBack : xk_mok m_M_writeBack 1 := ⟨rfl, by decide, (xk_in (List.mem_of_getElem? (i := 725) (by decide +kernel)) rfl), (xk_in (List.mem_of_getElem? (i := 42) (by decide +kernel)) rfl), ⟨by decide, by decide⟩, by decide +kernel⟩
theorem cz_M_writeBack : xk_CV m_M_writeBack 7 1 := ⟨mo_M_writeBack, (xk_in (List.mem_of_getElem? (i := 724) (by decide +kernel)) rfl), (xk_in (List.mem_of_getElem? (i := 33) (by decide +kernel)) rfl), ⟨_, rfl, rfl⟩, by decide⟩
theorem mo_M_write : xk_mok m_M_write 3 := ⟨rfl, by decide, (xk_in (List.mem_of_getElem? (i := 729) (by decide +kernel)) rfl), (xk_in (List.mem_of_getElem? (i := 42) (by decide +kernel)) rfl), ⟨by decide, by decide⟩, by decide +kernel⟩
theorem cz_M_write : xk_CV m_M_write 7 3 := ⟨mo_M_write, (xk_in (List.mem_of_getElem? (i := 727) (by decide +kernel)) rfl), (xk_in (List.mem_of_getElem? (i := 728) (by decide +kernel)) rfl), ⟨_, rfl, rfl⟩, by decide⟩
theorem mo_M_seek : xk_mok m_M_seek 3 := ⟨rfl, by decide, (xk_in (List.mem_of_getElem? (i := 733) (by decide +kernel)) rfl), (xk_in (List.mem_of_getElem? (i := 42) (by decide +kernel)) rfl), ⟨by decide, by decide⟩, by decide +kernel⟩
theorem cz_M_seek : xk_CV m_M_seek 7 3 := ⟨mo_M_seek, (xk_in (List.mem_of_getElem? (i := 731) (by decide +kernel)) rfl), (xk_in (List.mem_of_getElem? (i := 732) (by decide +kernel)) rfl), ⟨_, rfl, rfl⟩, by decide⟩
theorem mo_M_sync : xk_mok m_M_sync 2 := ⟨rfl, by decide, (xk_in (List.mem_of_getElem? (i := 737) (by decide +kernel)) rfl), (xk_in (List.mem_of_getElem? (i := 42) (by decide +kernel)) rfl), ⟨by decide, by decide⟩, by decide +kernel⟩
theorem cz_M_sync : xk_CV m_M_sync 7 2 := ⟨mo_M_sync, (xk_in (List.mem_of_getElem? (i := 735) (by decide +kernel)) rfl), (xk_in (List.mem_of_getElem? (i := 736) (by decide +kernel)) rfl), ⟨_, rfl, rfl⟩, by decide⟩
theorem mo_M_dup : xk_mok m_M_dup 2 := ⟨rfl, by decide, (xk_in (List.mem_of_getElem? (i := 741) (by decide +kernel)) rfl), (xk_in (List.mem_of_getElem? (i := 42) (by decide +kernel)) rfl), ⟨by decide, by decide⟩, by decide +kernel⟩
theorem cz_M_dup : xk_CV m_M_dup 7 2 := ⟨mo_M_dup, (xk_in (List.mem_of_getElem? (i := 739) (by decide +kernel)) rfl), (xk_in (List.mem_of_getElem? (i := 740) (by decide +kernel)) rfl), ⟨_, rfl, rfl⟩, by decide⟩
theorem mo_M_close : xk_mok m_M_close 2 := ⟨rfl, by decide, (xk_in (List.mem_of_getElem? (i := 745) (by decide +kernel)) rfl), (xk_in (List.mem_of_getElem? (i := 42) (by decide +kernel)) rfl), ⟨by decide, by decide⟩, by decide +kernel⟩
theorem cz_M_close : xk_CV m_M_close 7 2 := ⟨mo_M_close, (xk_in (List.mem_of_getElem? (i := 743) (by decide +kernel)) rfl), (xk_in (List.mem_of_getElem? (i := 744) (by decide +kernel)) rfl), ⟨_, rfl, rfl⟩, by decide⟩
theorem mo_M_unlink : xk_mok m_M_unlink 2 := ⟨rfl, by decide, (xk_in (List.mem_of_getElem? (i := 749) (by decide +kernel)) rfl), (xk_in (List.mem_of_getElem? (i := 42) (by decide +kernel)) rfl), ⟨by decide, by decide⟩, by decide +kernel⟩
theorem cz_M_unlink : xk_CV m_M_unlink 7 2 := ⟨mo_M_unlink, (xk_in (List.mem_of_getElem? (i := 747) (by decide +kernel)) rfl), (xk_in (List.mem_of_getElem? (i := 748) (by decide +kernel)) rfl), ⟨_, rfl, rfl⟩, by decide⟩
theorem mo_M_fork : xk_mok m_M_fork 1 := ⟨rfl, by decide, (xk_in (List.mem_of_getElem? (i := 753) (by decide +kernel)) rfl), (xk_in (List.mem_of_getElem? (i := 42) (by decide +kernel)) rfl), ⟨by decide, by decide⟩, by decide +kernel⟩
theorem cz_M_fork : xk_CV m_M_fork 7 1 := ⟨mo_M_fork, (xk_in (List.mem_of_getElem? (i := 751) (by decide +kernel)) rfl), (xk_in (List.mem_of_getElem? (i := 752) (by decide +kernel)) rfl), ⟨_, rfl, rfl⟩, by decide⟩
theorem mo_M_exit : xk_mok m_M_exit 2 := ⟨rfl, by decide, (xk_in (List.mem_of_getElem? (i := 757) (by decide +kernel)) rfl), (xk_in (List.mem_of_getElem? (i := 42) (by decide +kernel)) rfl), ⟨by decide, by decide⟩, by decide +kernel⟩
theorem cz_M_exit : xk_CV m_M_exit 7 2 := ⟨mo_M_exit, (xk_in (List.mem_of_getElem? (i := 755) (by decide +kernel)) rfl), (xk_in (List.mem_of_getElem? (i := 756) (by decide +kernel)) rfl), ⟨_, rfl, rfl⟩, by decide⟩
theorem mo_M_wait : xk_mok m_M_wait 1 := ⟨rfl, by decide, (xk_in (List.mem_of_getElem? (i := 761) (by decide +kernel)) rfl), (xk_in (List.mem_of_getElem? (i := 42) (by decide +kernel)) rfl), ⟨by decide, by decide⟩, by decide +kernel⟩
theorem cz_M_wait : xk_CV m_M_wait 7 1 := ⟨mo_M_wait, (xk_in (List.mem_of_getElem? (i := 759) (by decide +kernel)) rfl), (xk_in (List.mem_of_getElem? (i := 760) (by decide +kernel)) rfl), ⟨_, rfl, rfl⟩, by decide⟩
theorem mo_M_crash : xk_mok m_M_crash 0 := ⟨rfl, by decide, (xk_in (List.mem_of_getElem? (i := 765) (by decide +kernel)) rfl), (xk_in (List.mem_of_getElem? (i := 42) (by decide +kernel)) rfl), ⟨by decide, by decide⟩, by decide +kernel⟩
theorem cz_M_crash : xk_CV m_M_crash 7 0 := ⟨mo_M_crash, (xk_in (List.mem_of_getElem? (i := 763) (by decide +kernel)) rfl), (xk_in (List.mem_of_getElem? (i := 764) (by decide +kernel)) rfl), ⟨_, rfl, rfl⟩, by decide⟩
theorem mo_M_host : xk_mok m_M_host 2 := ⟨rfl, by decide, (xk_in (List.mem_of_getElem? (i := 769) (by decide +kernel)) rfl), (xk_in (List.mem_of_getElem? (i := 42) (by decide +kernel)) rfl), ⟨by decide, by decide⟩, by decide +kernel⟩
theorem cz_M_host : xk_CV m_M_host 7 2 := ⟨mo_M_host, (xk_in (List.mem_of_getElem? (i := 767) (by decide +kernel)) rfl), (xk_in (List.mem_of_getElem? (i := 768) (by decide +kernel)) rfl), ⟨_, rfl, rfl⟩, by decide⟩
theorem mo_M_log : xk_mok m_M_log 1 := ⟨rfl, by decide, (xk_in (List.mem_of_getElem? (i := 773) (by decide +kernel)) rfl), (xk_in (List.mem_of_getElem? (i := 42) (by decide +kernel)) rfl), ⟨by decide, by decide⟩, by decide +kernel⟩
theorem cz_M_log : xk_CV m_M_log 7 1 := ⟨mo_M_log, (xk_in (List.mem_of_getElem? (i := 771) (by decide +kernel)) rfl), (xk_in (List.mem_of_getElem? (i := 772) (by decide +kernel)) rfl), ⟨_, rfl, rfl⟩, by decide⟩
theorem mo_M_cached : xk_mok m_M_cached 1 := ⟨rfl, by decide, (xk_in (List.mem_of_getElem? (i := 777) (by decide +kernel)) rfl), (xk_in (List.mem_of_getElem? (i := 42) (by decide +kernel)) rfl), ⟨by decide, by decide⟩, by decide +kernel⟩
theorem cz_M_cached : xk_CV m_M_cached 7 1 := ⟨mo_M_cached, (xk_in (List.mem_of_getElem? (i := 775) (by decide +kernel)) rfl), (xk_in (List.mem_of_getElem? (i := 776) (by decide +kernel)) rfl), ⟨_, rfl, rfl⟩, by decide⟩
theorem mo_M_count : xk_mok m_M_count 1 := ⟨rfl, by decide, (xk_in (List.mem_of_getElem? (i := 781) (by decide +kernel)) rfl), (xk_in (List.mem_of_getElem? (i := 42) (by decide +kernel)) rfl), ⟨by decide, by decide⟩, by decide +kernel⟩
theorem cz_M_count : xk_CV m_M_count 7 1 := ⟨mo_M_count, (xk_in (List.mem_of_getElem? (i := 779) (by decide +kernel)) rfl), (xk_in (List.mem_of_getElem? (i := 780) (by decide +kernel)) rfl), ⟨_, rfl, rfl⟩, by decide⟩
end
section
/-! decode rows, by program -/
theorem d_Arr_fill2_0 : decode prog_12_method_103_code 0 = .ok (.iconst 0, 1) := by decide +kernel
theorem d_Arr_fill2_1 : decode prog_12_method_103_code 1 = .ok (.istore_n 2, 1) := by decide +kernel
theorem d_Arr_fill2_2 : decode prog_12_method_103_code 2 = .ok (.aload_n 0, 1) := by decide +kernel
theorem d_Arr_fill2_3 : decode prog_12_method_103_code 3 = .ok (.arraylength, 1) := by decide +kernel
theorem d_Arr_fill2_4 : decode prog_12_method_103_code 4 = .ok (.istore_n 3, 1) := by decide +kernel
theorem d_Arr_fill2_5 : decode prog_12_method_103_code 5 = .ok (.iload_n 2, 1) := by decide +kernel
theorem d_Arr_fill2_6 : decode prog_12_method_103_code 6 = .ok (.iload_n 3, 1) := by decide +kernel
theorem d_Arr_fill2_7 : decode prog_12_method_103_code 7 = .ok (.if_icmp .ge 13, 3) := by decide +kernel
theorem d_Arr_fill2_10 : decode prog_12_method_103_code 10 = .ok (.aload_n 0, 1) := by decide +kernel
theorem d_Arr_fill2_11 : decode prog_12_method_103_code 11 = .ok (.iload_n 2, 1) := by decide +kernel
theorem d_Arr_fill2_12 : decode prog_12_method_103_code 12 = .ok (.iload_n 1, 1) := by decide +kernel
theorem d_Arr_fill2_13 : decode prog_12_method_103_code 13 = .ok (.iastore, 1) := by decide +kernel
theorem d_Arr_fill2_14 : decode prog_12_method_103_code 14 = .ok (.iinc 2 1, 3) := by decide +kernel
theorem d_Arr_fill2_17 : decode prog_12_method_103_code 17 = .ok (.goto (-12), 3) := by decide +kernel
theorem d_Arr_fill2_20 : decode prog_12_method_103_code 20 = .ok (.return_, 1) := by decide +kernel
theorem d_Arr_fill4_0 : decode prog_12_method_104_code 0 = .ok (.aload_n 0, 1) := by decide +kernel
theorem d_Arr_fill4_1 : decode prog_12_method_104_code 1 = .ok (.arraylength, 1) := by decide +kernel
theorem d_Arr_fill4_2 : decode prog_12_method_104_code 2 = .ok (.iload_n 1, 1) := by decide +kernel
theorem d_Arr_fill4_3 : decode prog_12_method_104_code 3 = .ok (.iload_n 2, 1) := by decide +kernel
theorem d_Arr_fill4_4 : decode prog_12_method_104_code 4 = .ok (.invokestatic 13, 3) := by decide +kernel
theorem d_Arr_fill4_7 : decode prog_12_method_104_code 7 = .ok (.iload_n 1, 1) := by decide +kernel
theorem d_Arr_fill4_8 : decode prog_12_method_104_code 8 = .ok (.istore 4, 2) := by decide +kernel
theorem d_Arr_fill4_10 : decode prog_12_method_104_code 10 = .ok (.iload 4, 2) := by decide +kernel
theorem d_Arr_fill4_12 : decode prog_12_method_104_code 12 = .ok (.iload_n 2, 1) := by decide +kernel
theorem d_Arr_fill4_13 : decode prog_12_method_104_code 13 = .ok (.if_icmp .ge 14, 3) := by decide +kernel
theorem d_Arr_fill4_16 : decode prog_12_method_104_code 16 = .ok (.aload_n 0, 1) := by decide +kernel
theorem d_Arr_fill4_17 : decode prog_12_method_104_code 17 = .ok (.iload 4, 2) := by decide +kernel
theorem d_Arr_fill4_19 : decode prog_12_method_104_code 19 = .ok (.iload_n 3, 1) := by decide +kernel
theorem d_Arr_fill4_20 : decode prog_12_method_104_code 20 = .ok (.iastore, 1) := by decide +kernel
theorem d_Arr_fill4_21 : decode prog_12_method_104_code 21 = .ok (.iinc 4 1, 3) := by decide +kernel
theorem d_Arr_fill4_24 : decode prog_12_method_104_code 24 = .ok (.goto (-14), 3) := by decide +kernel
theorem d_Arr_fill4_27 : decode prog_12_method_104_code 27 = .ok (.return_, 1) := by decide +kernel
theorem d_Arr_rangeCheck_0 : decode prog_12_method_30_code 0 = .ok (.iload_n 1, 1) := by decide +kernel
theorem d_Arr_rangeCheck_1 : decode prog_12_method_30_code 1 = .ok (.iload_n 2, 1) := by decide +kernel
theorem d_Arr_rangeCheck_2 : decode prog_12_method_30_code 2 = .ok (.if_icmp .le 44, 3) := by decide +kernel
theorem d_Arr_rangeCheck_46 : decode prog_12_method_30_code 46 = .ok (.iload_n 1, 1) := by decide +kernel
theorem d_Arr_rangeCheck_47 : decode prog_12_method_30_code 47 = .ok (.ifCond .ge 12, 3) := by decide +kernel
theorem d_Arr_rangeCheck_59 : decode prog_12_method_30_code 59 = .ok (.iload_n 2, 1) := by decide +kernel
theorem d_Arr_rangeCheck_60 : decode prog_12_method_30_code 60 = .ok (.iload_n 0, 1) := by decide +kernel
theorem d_Arr_rangeCheck_61 : decode prog_12_method_30_code 61 = .ok (.if_icmp .le 12, 3) := by decide +kernel
theorem d_Arr_rangeCheck_73 : decode prog_12_method_30_code 73 = .ok (.return_, 1) := by decide +kernel
end
section
/-! decode rows, by program -/
theorem d_Block_init_0 : decode prog_2_method_1_code 0 = .ok (.aload_n 0, 1) := by decide +kernel
theorem d_Block_init_1 : decode prog_2_method_1_code 1 = .ok (.invokespecial 3, 3) := by decide +kernel
theorem d_Block_init_4 : decode prog_2_method_1_code 4 = .ok (.aload_n 0, 1) := by decide +kernel
theorem d_Block_init_5 : decode prog_2_method_1_code 5 = .ok (.iconst 0, 1) := by decide +kernel
theorem d_Block_init_6 : decode prog_2_method_1_code 6 = .ok (.putfield 9, 3) := by decide +kernel
theorem d_Block_init_9 : decode prog_2_method_1_code 9 = .ok (.aload_n 0, 1) := by decide +kernel
theorem d_Block_init_10 : decode prog_2_method_1_code 10 = .ok (.iconst 0, 1) := by decide +kernel
theorem d_Block_init_11 : decode prog_2_method_1_code 11 = .ok (.putfield 15, 3) := by decide +kernel
theorem d_Block_init_14 : decode prog_2_method_1_code 14 = .ok (.aload_n 0, 1) := by decide +kernel
theorem d_Block_init_15 : decode prog_2_method_1_code 15 = .ok (.iconst 0, 1) := by decide +kernel
theorem d_Block_init_16 : decode prog_2_method_1_code 16 = .ok (.putfield 18, 3) := by decide +kernel
theorem d_Block_init_19 : decode prog_2_method_1_code 19 = .ok (.aload_n 0, 1) := by decide +kernel
theorem d_Block_init_20 : decode prog_2_method_1_code 20 = .ok (.bipush 8, 2) := by decide +kernel
theorem d_Block_init_22 : decode prog_2_method_1_code 22 = .ok (.newarray .int, 2) := by decide +kernel
theorem d_Block_init_24 : decode prog_2_method_1_code 24 = .ok (.putfield 22, 3) := by decide +kernel
theorem d_Block_init_27 : decode prog_2_method_1_code 27 = .ok (.return_, 1) := by decide +kernel
theorem d_Block_isOf_0 : decode prog_2_method_2_code 0 = .ok (.aload_n 0, 1) := by decide +kernel
theorem d_Block_isOf_1 : decode prog_2_method_2_code 1 = .ok (.getfield 9, 3) := by decide +kernel
theorem d_Block_isOf_4 : decode prog_2_method_2_code 4 = .ok (.iload_n 1, 1) := by decide +kernel
theorem d_Block_isOf_5 : decode prog_2_method_2_code 5 = .ok (.if_icmp .ne 15, 3) := by decide +kernel
theorem d_Block_isOf_8 : decode prog_2_method_2_code 8 = .ok (.aload_n 0, 1) := by decide +kernel
theorem d_Block_isOf_9 : decode prog_2_method_2_code 9 = .ok (.getfield 15, 3) := by decide +kernel
theorem d_Block_isOf_12 : decode prog_2_method_2_code 12 = .ok (.iload_n 2, 1) := by decide +kernel
theorem d_Block_isOf_13 : decode prog_2_method_2_code 13 = .ok (.if_icmp .ne 7, 3) := by decide +kernel
theorem d_Block_isOf_16 : decode prog_2_method_2_code 16 = .ok (.iconst 1, 1) := by decide +kernel
theorem d_Block_isOf_17 : decode prog_2_method_2_code 17 = .ok (.goto 4, 3) := by decide +kernel
theorem d_Block_isOf_20 : decode prog_2_method_2_code 20 = .ok (.iconst 0, 1) := by decide +kernel
theorem d_Block_isOf_21 : decode prog_2_method_2_code 21 = .ok (.ireturn, 1) := by decide +kernel
theorem d_Block_describe_0 : decode prog_2_method_3_code 0 = .ok (.aload_n 0, 1) := by decide +kernel
theorem d_Block_describe_1 : decode prog_2_method_3_code 1 = .ok (.getfield 9, 3) := by decide +kernel
theorem d_Block_describe_4 : decode prog_2_method_3_code 4 = .ok (.bipush 8, 2) := by decide +kernel
theorem d_Block_describe_6 : decode prog_2_method_3_code 6 = .ok (.aload_n 0, 1) := by decide +kernel
theorem d_Block_describe_7 : decode prog_2_method_3_code 7 = .ok (.getfield 15, 3) := by decide +kernel
theorem d_Block_describe_10 : decode prog_2_method_3_code 10 = .ok (.imul, 1) := by decide +kernel
theorem d_Block_describe_11 : decode prog_2_method_3_code 11 = .ok (.iadd, 1) := by decide +kernel
theorem d_Block_describe_12 : decode prog_2_method_3_code 12 = .ok (.aload_n 0, 1) := by decide +kernel
theorem d_Block_describe_13 : decode prog_2_method_3_code 13 = .ok (.getfield 18, 3) := by decide +kernel
theorem d_Block_describe_16 : decode prog_2_method_3_code 16 = .ok (.ifCond .eq 8, 3) := by decide +kernel
theorem d_Block_describe_19 : decode prog_2_method_3_code 19 = .ok (.bipush 32, 2) := by decide +kernel
theorem d_Block_describe_21 : decode prog_2_method_3_code 21 = .ok (.goto 4, 3) := by decide +kernel
theorem d_Block_describe_24 : decode prog_2_method_3_code 24 = .ok (.iconst 0, 1) := by decide +kernel
theorem d_Block_describe_25 : decode prog_2_method_3_code 25 = .ok (.iadd, 1) := by decide +kernel
theorem d_Block_describe_26 : decode prog_2_method_3_code 26 = .ok (.ireturn, 1) := by decide +kernel
end
section
/-! decode rows, by program -/
theorem d_Cache_init_0 : decode prog_3_method_1_code 0 = .ok (.aload_n 0, 1) := by decide +kernel
theorem d_Cache_init_1 : decode prog_3_method_1_code 1 = .ok (.invokespecial 3, 3) := by decide +kernel
theorem d_Cache_init_4 : decode prog_3_method_1_code 4 = .ok (.aload_n 0, 1) := by decide +kernel
theorem d_Cache_init_5 : decode prog_3_method_1_code 5 = .ok (.bipush 8, 2) := by decide +kernel
theorem d_Cache_init_7 : decode prog_3_method_1_code 7 = .ok (.newarray .int, 2) := by decide +kernel
theorem d_Cache_init_9 : decode prog_3_method_1_code 9 = .ok (.putfield 9, 3) := by decide +kernel
theorem d_Cache_init_12 : decode prog_3_method_1_code 12 = .ok (.aload_n 0, 1) := by decide +kernel
theorem d_Cache_init_13 : decode prog_3_method_1_code 13 = .ok (.iconst 5, 1) := by decide +kernel
theorem d_Cache_init_14 : decode prog_3_method_1_code 14 = .ok (.anewarray 15, 3) := by decide +kernel
theorem d_Cache_init_17 : decode prog_3_method_1_code 17 = .ok (.putfield 17, 3) := by decide +kernel
theorem d_Cache_init_20 : decode prog_3_method_1_code 20 = .ok (.aload_n 0, 1) := by decide +kernel
theorem d_Cache_init_21 : decode prog_3_method_1_code 21 = .ok (.iconst 0, 1) := by decide +kernel
theorem d_Cache_init_22 : decode prog_3_method_1_code 22 = .ok (.putfield 21, 3) := by decide +kernel
theorem d_Cache_init_25 : decode prog_3_method_1_code 25 = .ok (.aload_n 0, 1) := by decide +kernel
theorem d_Cache_init_26 : decode prog_3_method_1_code 26 = .ok (.aload_n 1, 1) := by decide +kernel
theorem d_Cache_init_27 : decode prog_3_method_1_code 27 = .ok (.putfield 25, 3) := by decide +kernel
theorem d_Cache_init_30 : decode prog_3_method_1_code 30 = .ok (.iconst 0, 1) := by decide +kernel
theorem d_Cache_init_31 : decode prog_3_method_1_code 31 = .ok (.istore_n 2, 1) := by decide +kernel
theorem d_Cache_init_32 : decode prog_3_method_1_code 32 = .ok (.iload_n 2, 1) := by decide +kernel
theorem d_Cache_init_33 : decode prog_3_method_1_code 33 = .ok (.iconst 5, 1) := by decide +kernel
theorem d_Cache_init_34 : decode prog_3_method_1_code 34 = .ok (.if_icmp .ge 22, 3) := by decide +kernel
theorem d_Cache_init_37 : decode prog_3_method_1_code 37 = .ok (.aload_n 0, 1) := by decide +kernel
theorem d_Cache_init_38 : decode prog_3_method_1_code 38 = .ok (.getfield 17, 3) := by decide +kernel
theorem d_Cache_init_41 : decode prog_3_method_1_code 41 = .ok (.iload_n 2, 1) := by decide +kernel
theorem d_Cache_init_42 : decode prog_3_method_1_code 42 = .ok (.new 15, 3) := by decide +kernel
theorem d_Cache_init_45 : decode prog_3_method_1_code 45 = .ok (.dup, 1) := by decide +kernel
theorem d_Cache_init_46 : decode prog_3_method_1_code 46 = .ok (.invokespecial 29, 3) := by decide +kernel
theorem d_Cache_init_49 : decode prog_3_method_1_code 49 = .ok (.aastore, 1) := by decide +kernel
theorem d_Cache_init_50 : decode prog_3_method_1_code 50 = .ok (.iinc 2 1, 3) := by decide +kernel
theorem d_Cache_init_53 : decode prog_3_method_1_code 53 = .ok (.goto (-21), 3) := by decide +kernel
theorem d_Cache_init_56 : decode prog_3_method_1_code 56 = .ok (.return_, 1) := by decide +kernel
theorem d_Cache_holdsFile_0 : decode prog_3_method_6_code 0 = .ok (.iconst 0, 1) := by decide +kernel
theorem d_Cache_holdsFile_1 : decode prog_3_method_6_code 1 = .ok (.istore_n 2, 1) := by decide +kernel
theorem d_Cache_holdsFile_2 : decode prog_3_method_6_code 2 = .ok (.iload_n 2, 1) := by decide +kernel
theorem d_Cache_holdsFile_3 : decode prog_3_method_6_code 3 = .ok (.aload_n 0, 1) := by decide +kernel
theorem d_Cache_holdsFile_4 : decode prog_3_method_6_code 4 = .ok (.getfield 21, 3) := by decide +kernel
theorem d_Cache_holdsFile_7 : decode prog_3_method_6_code 7 = .ok (.if_icmp .ge 24, 3) := by decide +kernel
theorem d_Cache_holdsFile_10 : decode prog_3_method_6_code 10 = .ok (.aload_n 0, 1) := by decide +kernel
theorem d_Cache_holdsFile_11 : decode prog_3_method_6_code 11 = .ok (.getfield 17, 3) := by decide +kernel
theorem d_Cache_holdsFile_14 : decode prog_3_method_6_code 14 = .ok (.iload_n 2, 1) := by decide +kernel
theorem d_Cache_holdsFile_15 : decode prog_3_method_6_code 15 = .ok (.aaload, 1) := by decide +kernel
theorem d_Cache_holdsFile_16 : decode prog_3_method_6_code 16 = .ok (.getfield 30, 3) := by decide +kernel
theorem d_Cache_holdsFile_19 : decode prog_3_method_6_code 19 = .ok (.iload_n 1, 1) := by decide +kernel
theorem d_Cache_holdsFile_20 : decode prog_3_method_6_code 20 = .ok (.if_icmp .ne 5, 3) := by decide +kernel
theorem d_Cache_holdsFile_23 : decode prog_3_method_6_code 23 = .ok (.iconst 1, 1) := by decide +kernel
theorem d_Cache_holdsFile_24 : decode prog_3_method_6_code 24 = .ok (.ireturn, 1) := by decide +kernel
theorem d_Cache_holdsFile_25 : decode prog_3_method_6_code 25 = .ok (.iinc 2 1, 3) := by decide +kernel
theorem d_Cache_holdsFile_28 : decode prog_3_method_6_code 28 = .ok (.goto (-26), 3) := by decide +kernel
theorem d_Cache_holdsFile_31 : decode prog_3_method_6_code 31 = .ok (.iconst 0, 1) := by decide +kernel
theorem d_Cache_holdsFile_32 : decode prog_3_method_6_code 32 = .ok (.ireturn, 1) := by decide +kernel
theorem d_Cache_setLength_0 : decode prog_3_method_3_code 0 = .ok (.aload_n 0, 1) := by decide +kernel
theorem d_Cache_setLength_1 : decode prog_3_method_3_code 1 = .ok (.getfield 9, 3) := by decide +kernel
theorem d_Cache_setLength_4 : decode prog_3_method_3_code 4 = .ok (.iload_n 1, 1) := by decide +kernel
theorem d_Cache_setLength_5 : decode prog_3_method_3_code 5 = .ok (.iload_n 2, 1) := by decide +kernel
theorem d_Cache_setLength_6 : decode prog_3_method_3_code 6 = .ok (.iastore, 1) := by decide +kernel
theorem d_Cache_setLength_7 : decode prog_3_method_3_code 7 = .ok (.return_, 1) := by decide +kernel
theorem d_Cache_dropFile_0 : decode prog_3_method_10_code 0 = .ok (.iconst 0, 1) := by decide +kernel
theorem d_Cache_dropFile_1 : decode prog_3_method_10_code 1 = .ok (.istore_n 2, 1) := by decide +kernel
theorem d_Cache_dropFile_2 : decode prog_3_method_10_code 2 = .ok (.iconst 0, 1) := by decide +kernel
theorem d_Cache_dropFile_3 : decode prog_3_method_10_code 3 = .ok (.istore_n 3, 1) := by decide +kernel
theorem d_Cache_dropFile_4 : decode prog_3_method_10_code 4 = .ok (.iload_n 3, 1) := by decide +kernel
theorem d_Cache_dropFile_5 : decode prog_3_method_10_code 5 = .ok (.aload_n 0, 1) := by decide +kernel
theorem d_Cache_dropFile_6 : decode prog_3_method_10_code 6 = .ok (.getfield 21, 3) := by decide +kernel
theorem d_Cache_dropFile_9 : decode prog_3_method_10_code 9 = .ok (.if_icmp .ge 49, 3) := by decide +kernel
theorem d_Cache_dropFile_12 : decode prog_3_method_10_code 12 = .ok (.aload_n 0, 1) := by decide +kernel
theorem d_Cache_dropFile_13 : decode prog_3_method_10_code 13 = .ok (.getfield 17, 3) := by decide +kernel
theorem d_Cache_dropFile_16 : decode prog_3_method_10_code 16 = .ok (.iload_n 3, 1) := by decide +kernel
theorem d_Cache_dropFile_17 : decode prog_3_method_10_code 17 = .ok (.aaload, 1) := by decide +kernel
theorem d_Cache_dropFile_18 : decode prog_3_method_10_code 18 = .ok (.astore 4, 2) := by decide +kernel
theorem d_Cache_dropFile_20 : decode prog_3_method_10_code 20 = .ok (.aload 4, 2) := by decide +kernel
theorem d_Cache_dropFile_22 : decode prog_3_method_10_code 22 = .ok (.getfield 30, 3) := by decide +kernel
theorem d_Cache_dropFile_25 : decode prog_3_method_10_code 25 = .ok (.iload_n 1, 1) := by decide +kernel
theorem d_Cache_dropFile_26 : decode prog_3_method_10_code 26 = .ok (.if_icmp .eq 26, 3) := by decide +kernel
theorem d_Cache_dropFile_29 : decode prog_3_method_10_code 29 = .ok (.aload_n 0, 1) := by decide +kernel
theorem d_Cache_dropFile_30 : decode prog_3_method_10_code 30 = .ok (.getfield 17, 3) := by decide +kernel
theorem d_Cache_dropFile_33 : decode prog_3_method_10_code 33 = .ok (.iload_n 3, 1) := by decide +kernel
theorem d_Cache_dropFile_34 : decode prog_3_method_10_code 34 = .ok (.aload_n 0, 1) := by decide +kernel
theorem d_Cache_dropFile_35 : decode prog_3_method_10_code 35 = .ok (.getfield 17, 3) := by decide +kernel
theorem d_Cache_dropFile_38 : decode prog_3_method_10_code 38 = .ok (.iload_n 2, 1) := by decide +kernel
theorem d_Cache_dropFile_39 : decode prog_3_method_10_code 39 = .ok (.aaload, 1) := by decide +kernel
theorem d_Cache_dropFile_40 : decode prog_3_method_10_code 40 = .ok (.aastore, 1) := by decide +kernel
theorem d_Cache_dropFile_41 : decode prog_3_method_10_code 41 = .ok (.aload_n 0, 1) := by decide +kernel
theorem d_Cache_dropFile_42 : decode prog_3_method_10_code 42 = .ok (.getfield 17, 3) := by decide +kernel
theorem d_Cache_dropFile_45 : decode prog_3_method_10_code 45 = .ok (.iload_n 2, 1) := by decide +kernel
theorem d_Cache_dropFile_46 : decode prog_3_method_10_code 46 = .ok (.aload 4, 2) := by decide +kernel
theorem d_Cache_dropFile_48 : decode prog_3_method_10_code 48 = .ok (.aastore, 1) := by decide +kernel
theorem d_Cache_dropFile_49 : decode prog_3_method_10_code 49 = .ok (.iinc 2 1, 3) := by decide +kernel
theorem d_Cache_dropFile_52 : decode prog_3_method_10_code 52 = .ok (.iinc 3 1, 3) := by decide +kernel
theorem d_Cache_dropFile_55 : decode prog_3_method_10_code 55 = .ok (.goto (-51), 3) := by decide +kernel
theorem d_Cache_dropFile_58 : decode prog_3_method_10_code 58 = .ok (.aload_n 0, 1) := by decide +kernel
theorem d_Cache_dropFile_59 : decode prog_3_method_10_code 59 = .ok (.iload_n 2, 1) := by decide +kernel
theorem d_Cache_dropFile_60 : decode prog_3_method_10_code 60 = .ok (.putfield 21, 3) := by decide +kernel
theorem d_Cache_dropFile_63 : decode prog_3_method_10_code 63 = .ok (.return_, 1) := by decide +kernel
theorem d_Cache_lengthOf_0 : decode prog_3_method_2_code 0 = .ok (.aload_n 0, 1) := by decide +kernel
theorem d_Cache_lengthOf_1 : decode prog_3_method_2_code 1 = .ok (.getfield 9, 3) := by decide +kernel
theorem d_Cache_lengthOf_4 : decode prog_3_method_2_code 4 = .ok (.iload_n 1, 1) := by decide +kernel
theorem d_Cache_lengthOf_5 : decode prog_3_method_2_code 5 = .ok (.iaload, 1) := by decide +kernel
theorem d_Cache_lengthOf_6 : decode prog_3_method_2_code 6 = .ok (.ireturn, 1) := by decide +kernel
theorem d_Cache_getBlock_0 : decode prog_3_method_8_code 0 = .ok (.aload_n 0, 1) := by decide +kernel
theorem d_Cache_getBlock_1 : decode prog_3_method_8_code 1 = .ok (.iload_n 1, 1) := by decide +kernel
theorem d_Cache_getBlock_2 : decode prog_3_method_8_code 2 = .ok (.iload_n 2, 1) := by decide +kernel
theorem d_Cache_getBlock_3 : decode prog_3_method_8_code 3 = .ok (.invokevirtual 37, 3) := by decide +kernel
theorem d_Cache_getBlock_6 : decode prog_3_method_8_code 6 = .ok (.istore_n 3, 1) := by decide +kernel
theorem d_Cache_getBlock_7 : decode prog_3_method_8_code 7 = .ok (.iload_n 3, 1) := by decide +kernel
theorem d_Cache_getBlock_8 : decode prog_3_method_8_code 8 = .ok (.iconst (-1), 1) := by decide +kernel
theorem d_Cache_getBlock_9 : decode prog_3_method_8_code 9 = .ok (.if_icmp .ne 28, 3) := by decide +kernel
theorem d_Cache_getBlock_12 : decode prog_3_method_8_code 12 = .ok (.aload_n 0, 1) := by decide +kernel
theorem d_Cache_getBlock_13 : decode prog_3_method_8_code 13 = .ok (.invokevirtual 41, 3) := by decide +kernel
theorem d_Cache_getBlock_16 : decode prog_3_method_8_code 16 = .ok (.ifCond .eq 12, 3) := by decide +kernel
theorem d_Cache_getBlock_19 : decode prog_3_method_8_code 19 = .ok (.aload_n 0, 1) := by decide +kernel
theorem d_Cache_getBlock_20 : decode prog_3_method_8_code 20 = .ok (.iload_n 1, 1) := by decide +kernel
theorem d_Cache_getBlock_21 : decode prog_3_method_8_code 21 = .ok (.iload_n 2, 1) := by decide +kernel
theorem d_Cache_getBlock_22 : decode prog_3_method_8_code 22 = .ok (.invokevirtual 45, 3) := by decide +kernel
theorem d_Cache_getBlock_25 : decode prog_3_method_8_code 25 = .ok (.ifCond .ne 5, 3) := by decide +kernel
theorem d_Cache_getBlock_28 : decode prog_3_method_8_code 28 = .ok (.aconst_null, 1) := by decide +kernel
theorem d_Cache_getBlock_29 : decode prog_3_method_8_code 29 = .ok (.areturn, 1) := by decide +kernel
theorem d_Cache_getBlock_30 : decode prog_3_method_8_code 30 = .ok (.aload_n 0, 1) := by decide +kernel
theorem d_Cache_getBlock_31 : decode prog_3_method_8_code 31 = .ok (.getfield 21, 3) := by decide +kernel
theorem d_Cache_getBlock_34 : decode prog_3_method_8_code 34 = .ok (.iconst 1, 1) := by decide +kernel
theorem d_Cache_getBlock_35 : decode prog_3_method_8_code 35 = .ok (.isub, 1) := by decide +kernel
theorem d_Cache_getBlock_36 : decode prog_3_method_8_code 36 = .ok (.istore_n 3, 1) := by decide +kernel
theorem d_Cache_getBlock_37 : decode prog_3_method_8_code 37 = .ok (.aload_n 0, 1) := by decide +kernel
theorem d_Cache_getBlock_38 : decode prog_3_method_8_code 38 = .ok (.getfield 17, 3) := by decide +kernel
theorem d_Cache_getBlock_41 : decode prog_3_method_8_code 41 = .ok (.iload_n 3, 1) := by decide +kernel
theorem d_Cache_getBlock_42 : decode prog_3_method_8_code 42 = .ok (.aaload, 1) := by decide +kernel
theorem d_Cache_getBlock_43 : decode prog_3_method_8_code 43 = .ok (.astore 4, 2) := by decide +kernel
theorem d_Cache_getBlock_45 : decode prog_3_method_8_code 45 = .ok (.iload_n 3, 1) := by decide +kernel
theorem d_Cache_getBlock_46 : decode prog_3_method_8_code 46 = .ok (.istore 5, 2) := by decide +kernel
theorem d_Cache_getBlock_48 : decode prog_3_method_8_code 48 = .ok (.iload 5, 2) := by decide +kernel
theorem d_Cache_getBlock_50 : decode prog_3_method_8_code 50 = .ok (.ifCond .le 25, 3) := by decide +kernel
theorem d_Cache_getBlock_53 : decode prog_3_method_8_code 53 = .ok (.aload_n 0, 1) := by decide +kernel
theorem d_Cache_getBlock_54 : decode prog_3_method_8_code 54 = .ok (.getfield 17, 3) := by decide +kernel
theorem d_Cache_getBlock_57 : decode prog_3_method_8_code 57 = .ok (.iload 5, 2) := by decide +kernel
theorem d_Cache_getBlock_59 : decode prog_3_method_8_code 59 = .ok (.aload_n 0, 1) := by decide +kernel
theorem d_Cache_getBlock_60 : decode prog_3_method_8_code 60 = .ok (.getfield 17, 3) := by decide +kernel
theorem d_Cache_getBlock_63 : decode prog_3_method_8_code 63 = .ok (.iload 5, 2) := by decide +kernel
theorem d_Cache_getBlock_65 : decode prog_3_method_8_code 65 = .ok (.iconst 1, 1) := by decide +kernel
theorem d_Cache_getBlock_66 : decode prog_3_method_8_code 66 = .ok (.isub, 1) := by decide +kernel
theorem d_Cache_getBlock_67 : decode prog_3_method_8_code 67 = .ok (.aaload, 1) := by decide +kernel
theorem d_Cache_getBlock_68 : decode prog_3_method_8_code 68 = .ok (.aastore, 1) := by decide +kernel
theorem d_Cache_getBlock_69 : decode prog_3_method_8_code 69 = .ok (.iinc 5 (-1), 3) := by decide +kernel
theorem d_Cache_getBlock_72 : decode prog_3_method_8_code 72 = .ok (.goto (-24), 3) := by decide +kernel
theorem d_Cache_getBlock_75 : decode prog_3_method_8_code 75 = .ok (.aload_n 0, 1) := by decide +kernel
theorem d_Cache_getBlock_76 : decode prog_3_method_8_code 76 = .ok (.getfield 17, 3) := by decide +kernel
theorem d_Cache_getBlock_79 : decode prog_3_method_8_code 79 = .ok (.iconst 0, 1) := by decide +kernel
theorem d_Cache_getBlock_80 : decode prog_3_method_8_code 80 = .ok (.aload 4, 2) := by decide +kernel
theorem d_Cache_getBlock_82 : decode prog_3_method_8_code 82 = .ok (.aastore, 1) := by decide +kernel
theorem d_Cache_getBlock_83 : decode prog_3_method_8_code 83 = .ok (.aload 4, 2) := by decide +kernel
theorem d_Cache_getBlock_85 : decode prog_3_method_8_code 85 = .ok (.areturn, 1) := by decide +kernel
theorem d_Cache_find_0 : decode prog_3_method_12_code 0 = .ok (.iconst 0, 1) := by decide +kernel
theorem d_Cache_find_1 : decode prog_3_method_12_code 1 = .ok (.istore_n 3, 1) := by decide +kernel
theorem d_Cache_find_2 : decode prog_3_method_12_code 2 = .ok (.iload_n 3, 1) := by decide +kernel
theorem d_Cache_find_3 : decode prog_3_method_12_code 3 = .ok (.aload_n 0, 1) := by decide +kernel
theorem d_Cache_find_4 : decode prog_3_method_12_code 4 = .ok (.getfield 21, 3) := by decide +kernel
theorem d_Cache_find_7 : decode prog_3_method_12_code 7 = .ok (.if_icmp .ge 25, 3) := by decide +kernel
theorem d_Cache_find_10 : decode prog_3_method_12_code 10 = .ok (.aload_n 0, 1) := by decide +kernel
theorem d_Cache_find_11 : decode prog_3_method_12_code 11 = .ok (.getfield 17, 3) := by decide +kernel
theorem d_Cache_find_14 : decode prog_3_method_12_code 14 = .ok (.iload_n 3, 1) := by decide +kernel
theorem d_Cache_find_15 : decode prog_3_method_12_code 15 = .ok (.aaload, 1) := by decide +kernel
theorem d_Cache_find_16 : decode prog_3_method_12_code 16 = .ok (.iload_n 1, 1) := by decide +kernel
theorem d_Cache_find_17 : decode prog_3_method_12_code 17 = .ok (.iload_n 2, 1) := by decide +kernel
theorem d_Cache_find_18 : decode prog_3_method_12_code 18 = .ok (.invokevirtual 59, 3) := by decide +kernel
theorem d_Cache_find_21 : decode prog_3_method_12_code 21 = .ok (.ifCond .eq 5, 3) := by decide +kernel
theorem d_Cache_find_24 : decode prog_3_method_12_code 24 = .ok (.iload_n 3, 1) := by decide +kernel
theorem d_Cache_find_25 : decode prog_3_method_12_code 25 = .ok (.ireturn, 1) := by decide +kernel
theorem d_Cache_find_26 : decode prog_3_method_12_code 26 = .ok (.iinc 3 1, 3) := by decide +kernel
theorem d_Cache_find_29 : decode prog_3_method_12_code 29 = .ok (.goto (-27), 3) := by decide +kernel
theorem d_Cache_find_32 : decode prog_3_method_12_code 32 = .ok (.iconst (-1), 1) := by decide +kernel
theorem d_Cache_find_33 : decode prog_3_method_12_code 33 = .ok (.ireturn, 1) := by decide +kernel
theorem d_Cache_makeRoom_0 : decode prog_3_method_13_code 0 = .ok (.aload_n 0, 1) := by decide +kernel
theorem d_Cache_makeRoom_1 : decode prog_3_method_13_code 1 = .ok (.getfield 21, 3) := by decide +kernel
theorem d_Cache_makeRoom_4 : decode prog_3_method_13_code 4 = .ok (.iconst 5, 1) := by decide +kernel
theorem d_Cache_makeRoom_5 : decode prog_3_method_13_code 5 = .ok (.if_icmp .ge 5, 3) := by decide +kernel
theorem d_Cache_makeRoom_8 : decode prog_3_method_13_code 8 = .ok (.iconst 1, 1) := by decide +kernel
theorem d_Cache_makeRoom_9 : decode prog_3_method_13_code 9 = .ok (.ireturn, 1) := by decide +kernel
theorem d_Cache_makeRoom_10 : decode prog_3_method_13_code 10 = .ok (.aload_n 0, 1) := by decide +kernel
theorem d_Cache_makeRoom_11 : decode prog_3_method_13_code 11 = .ok (.getfield 17, 3) := by decide +kernel
theorem d_Cache_makeRoom_14 : decode prog_3_method_13_code 14 = .ok (.aload_n 0, 1) := by decide +kernel
theorem d_Cache_makeRoom_15 : decode prog_3_method_13_code 15 = .ok (.getfield 21, 3) := by decide +kernel
theorem d_Cache_makeRoom_18 : decode prog_3_method_13_code 18 = .ok (.iconst 1, 1) := by decide +kernel
theorem d_Cache_makeRoom_19 : decode prog_3_method_13_code 19 = .ok (.isub, 1) := by decide +kernel
theorem d_Cache_makeRoom_20 : decode prog_3_method_13_code 20 = .ok (.aaload, 1) := by decide +kernel
theorem d_Cache_makeRoom_21 : decode prog_3_method_13_code 21 = .ok (.astore_n 1, 1) := by decide +kernel
theorem d_Cache_makeRoom_22 : decode prog_3_method_13_code 22 = .ok (.aload_n 1, 1) := by decide +kernel
theorem d_Cache_makeRoom_23 : decode prog_3_method_13_code 23 = .ok (.getfield 33, 3) := by decide +kernel
theorem d_Cache_makeRoom_26 : decode prog_3_method_13_code 26 = .ok (.ifCond .eq 13, 3) := by decide +kernel
theorem d_Cache_makeRoom_29 : decode prog_3_method_13_code 29 = .ok (.aload_n 0, 1) := by decide +kernel
theorem d_Cache_makeRoom_30 : decode prog_3_method_13_code 30 = .ok (.aload_n 1, 1) := by decide +kernel
theorem d_Cache_makeRoom_31 : decode prog_3_method_13_code 31 = .ok (.invokevirtual 49, 3) := by decide +kernel
theorem d_Cache_makeRoom_34 : decode prog_3_method_13_code 34 = .ok (.ifCond .ne 5, 3) := by decide +kernel
theorem d_Cache_makeRoom_37 : decode prog_3_method_13_code 37 = .ok (.iconst 0, 1) := by decide +kernel
theorem d_Cache_makeRoom_38 : decode prog_3_method_13_code 38 = .ok (.ireturn, 1) := by decide +kernel
theorem d_Cache_makeRoom_39 : decode prog_3_method_13_code 39 = .ok (.aload_n 0, 1) := by decide +kernel
theorem d_Cache_makeRoom_40 : decode prog_3_method_13_code 40 = .ok (.dup, 1) := by decide +kernel
theorem d_Cache_makeRoom_41 : decode prog_3_method_13_code 41 = .ok (.getfield 21, 3) := by decide +kernel
theorem d_Cache_makeRoom_44 : decode prog_3_method_13_code 44 = .ok (.iconst 1, 1) := by decide +kernel
theorem d_Cache_makeRoom_45 : decode prog_3_method_13_code 45 = .ok (.isub, 1) := by decide +kernel
theorem d_Cache_makeRoom_46 : decode prog_3_method_13_code 46 = .ok (.putfield 21, 3) := by decide +kernel
theorem d_Cache_makeRoom_49 : decode prog_3_method_13_code 49 = .ok (.iconst 1, 1) := by decide +kernel
theorem d_Cache_makeRoom_50 : decode prog_3_method_13_code 50 = .ok (.ireturn, 1) := by decide +kernel
theorem d_Cache_writeOut_0 : decode prog_3_method_15_code 0 = .ok (.aload_n 0, 1) := by decide +kernel
theorem d_Cache_writeOut_1 : decode prog_3_method_15_code 1 = .ok (.getfield 25, 3) := by decide +kernel
theorem d_Cache_writeOut_4 : decode prog_3_method_15_code 4 = .ok (.aload_n 1, 1) := by decide +kernel
theorem d_Cache_writeOut_5 : decode prog_3_method_15_code 5 = .ok (.getfield 30, 3) := by decide +kernel
theorem d_Cache_writeOut_8 : decode prog_3_method_15_code 8 = .ok (.aload_n 1, 1) := by decide +kernel
theorem d_Cache_writeOut_9 : decode prog_3_method_15_code 9 = .ok (.getfield 75, 3) := by decide +kernel
theorem d_Cache_writeOut_12 : decode prog_3_method_15_code 12 = .ok (.aload_n 1, 1) := by decide +kernel
theorem d_Cache_writeOut_13 : decode prog_3_method_15_code 13 = .ok (.getfield 62, 3) := by decide +kernel
theorem d_Cache_writeOut_16 : decode prog_3_method_15_code 16 = .ok (.aload_n 0, 1) := by decide +kernel
theorem d_Cache_writeOut_17 : decode prog_3_method_15_code 17 = .ok (.getfield 9, 3) := by decide +kernel
theorem d_Cache_writeOut_20 : decode prog_3_method_15_code 20 = .ok (.aload_n 1, 1) := by decide +kernel
theorem d_Cache_writeOut_21 : decode prog_3_method_15_code 21 = .ok (.getfield 30, 3) := by decide +kernel
theorem d_Cache_writeOut_24 : decode prog_3_method_15_code 24 = .ok (.iaload, 1) := by decide +kernel
theorem d_Cache_writeOut_25 : decode prog_3_method_15_code 25 = .ok (.invokevirtual 78, 3) := by decide +kernel
theorem d_Cache_writeOut_28 : decode prog_3_method_15_code 28 = .ok (.ifCond .ne 5, 3) := by decide +kernel
theorem d_Cache_writeOut_31 : decode prog_3_method_15_code 31 = .ok (.iconst 0, 1) := by decide +kernel
theorem d_Cache_writeOut_32 : decode prog_3_method_15_code 32 = .ok (.ireturn, 1) := by decide +kernel
theorem d_Cache_writeOut_33 : decode prog_3_method_15_code 33 = .ok (.aload_n 1, 1) := by decide +kernel
theorem d_Cache_writeOut_34 : decode prog_3_method_15_code 34 = .ok (.iconst 0, 1) := by decide +kernel
theorem d_Cache_writeOut_35 : decode prog_3_method_15_code 35 = .ok (.putfield 33, 3) := by decide +kernel
theorem d_Cache_writeOut_38 : decode prog_3_method_15_code 38 = .ok (.iconst 1, 1) := by decide +kernel
theorem d_Cache_writeOut_39 : decode prog_3_method_15_code 39 = .ok (.ireturn, 1) := by decide +kernel
theorem d_Cache_bringIn_0 : decode prog_3_method_14_code 0 = .ok (.aload_n 0, 1) := by decide +kernel
theorem d_Cache_bringIn_1 : decode prog_3_method_14_code 1 = .ok (.getfield 17, 3) := by decide +kernel
theorem d_Cache_bringIn_4 : decode prog_3_method_14_code 4 = .ok (.aload_n 0, 1) := by decide +kernel
theorem d_Cache_bringIn_5 : decode prog_3_method_14_code 5 = .ok (.getfield 21, 3) := by decide +kernel
theorem d_Cache_bringIn_8 : decode prog_3_method_14_code 8 = .ok (.aaload, 1) := by decide +kernel
theorem d_Cache_bringIn_9 : decode prog_3_method_14_code 9 = .ok (.astore_n 3, 1) := by decide +kernel
theorem d_Cache_bringIn_10 : decode prog_3_method_14_code 10 = .ok (.iload_n 2, 1) := by decide +kernel
theorem d_Cache_bringIn_11 : decode prog_3_method_14_code 11 = .ok (.bipush 8, 2) := by decide +kernel
theorem d_Cache_bringIn_13 : decode prog_3_method_14_code 13 = .ok (.imul, 1) := by decide +kernel
theorem d_Cache_bringIn_14 : decode prog_3_method_14_code 14 = .ok (.aload_n 0, 1) := by decide +kernel
theorem d_Cache_bringIn_15 : decode prog_3_method_14_code 15 = .ok (.getfield 9, 3) := by decide +kernel
theorem d_Cache_bringIn_18 : decode prog_3_method_14_code 18 = .ok (.iload_n 1, 1) := by decide +kernel
theorem d_Cache_bringIn_19 : decode prog_3_method_14_code 19 = .ok (.iaload, 1) := by decide +kernel
theorem d_Cache_bringIn_20 : decode prog_3_method_14_code 20 = .ok (.if_icmp .lt 14, 3) := by decide +kernel
theorem d_Cache_bringIn_23 : decode prog_3_method_14_code 23 = .ok (.aload_n 3, 1) := by decide +kernel
theorem d_Cache_bringIn_24 : decode prog_3_method_14_code 24 = .ok (.getfield 62, 3) := by decide +kernel
theorem d_Cache_bringIn_27 : decode prog_3_method_14_code 27 = .ok (.iconst 0, 1) := by decide +kernel
theorem d_Cache_bringIn_28 : decode prog_3_method_14_code 28 = .ok (.invokestatic 65, 3) := by decide +kernel
theorem d_Cache_bringIn_31 : decode prog_3_method_14_code 31 = .ok (.goto 21, 3) := by decide +kernel
theorem d_Cache_bringIn_34 : decode prog_3_method_14_code 34 = .ok (.aload_n 0, 1) := by decide +kernel
theorem d_Cache_bringIn_35 : decode prog_3_method_14_code 35 = .ok (.getfield 25, 3) := by decide +kernel
theorem d_Cache_bringIn_38 : decode prog_3_method_14_code 38 = .ok (.iload_n 1, 1) := by decide +kernel
theorem d_Cache_bringIn_39 : decode prog_3_method_14_code 39 = .ok (.iload_n 2, 1) := by decide +kernel
theorem d_Cache_bringIn_40 : decode prog_3_method_14_code 40 = .ok (.aload_n 3, 1) := by decide +kernel
theorem d_Cache_bringIn_41 : decode prog_3_method_14_code 41 = .ok (.getfield 62, 3) := by decide +kernel
theorem d_Cache_bringIn_44 : decode prog_3_method_14_code 44 = .ok (.invokevirtual 71, 3) := by decide +kernel
theorem d_Cache_bringIn_47 : decode prog_3_method_14_code 47 = .ok (.ifCond .ne 5, 3) := by decide +kernel
theorem d_Cache_bringIn_50 : decode prog_3_method_14_code 50 = .ok (.iconst 0, 1) := by decide +kernel
theorem d_Cache_bringIn_51 : decode prog_3_method_14_code 51 = .ok (.ireturn, 1) := by decide +kernel
theorem d_Cache_bringIn_52 : decode prog_3_method_14_code 52 = .ok (.aload_n 3, 1) := by decide +kernel
theorem d_Cache_bringIn_53 : decode prog_3_method_14_code 53 = .ok (.iload_n 1, 1) := by decide +kernel
theorem d_Cache_bringIn_54 : decode prog_3_method_14_code 54 = .ok (.putfield 30, 3) := by decide +kernel
theorem d_Cache_bringIn_57 : decode prog_3_method_14_code 57 = .ok (.aload_n 3, 1) := by decide +kernel
theorem d_Cache_bringIn_58 : decode prog_3_method_14_code 58 = .ok (.iload_n 2, 1) := by decide +kernel
theorem d_Cache_bringIn_59 : decode prog_3_method_14_code 59 = .ok (.putfield 75, 3) := by decide +kernel
theorem d_Cache_bringIn_62 : decode prog_3_method_14_code 62 = .ok (.aload_n 3, 1) := by decide +kernel
theorem d_Cache_bringIn_63 : decode prog_3_method_14_code 63 = .ok (.iconst 0, 1) := by decide +kernel
theorem d_Cache_bringIn_64 : decode prog_3_method_14_code 64 = .ok (.putfield 33, 3) := by decide +kernel
theorem d_Cache_bringIn_67 : decode prog_3_method_14_code 67 = .ok (.aload_n 0, 1) := by decide +kernel
theorem d_Cache_bringIn_68 : decode prog_3_method_14_code 68 = .ok (.dup, 1) := by decide +kernel
theorem d_Cache_bringIn_69 : decode prog_3_method_14_code 69 = .ok (.getfield 21, 3) := by decide +kernel
theorem d_Cache_bringIn_72 : decode prog_3_method_14_code 72 = .ok (.iconst 1, 1) := by decide +kernel
theorem d_Cache_bringIn_73 : decode prog_3_method_14_code 73 = .ok (.iadd, 1) := by decide +kernel
theorem d_Cache_bringIn_74 : decode prog_3_method_14_code 74 = .ok (.putfield 21, 3) := by decide +kernel
theorem d_Cache_bringIn_77 : decode prog_3_method_14_code 77 = .ok (.iconst 1, 1) := by decide +kernel
theorem d_Cache_bringIn_78 : decode prog_3_method_14_code 78 = .ok (.ireturn, 1) := by decide +kernel
theorem d_Cache_writeFileOut_0 : decode prog_3_method_9_code 0 = .ok (.iconst 0, 1) := by decide +kernel
theorem d_Cache_writeFileOut_1 : decode prog_3_method_9_code 1 = .ok (.istore_n 2, 1) := by decide +kernel
theorem d_Cache_writeFileOut_2 : decode prog_3_method_9_code 2 = .ok (.iconst 0, 1) := by decide +kernel
theorem d_Cache_writeFileOut_3 : decode prog_3_method_9_code 3 = .ok (.istore_n 3, 1) := by decide +kernel
theorem d_Cache_writeFileOut_4 : decode prog_3_method_9_code 4 = .ok (.iload_n 3, 1) := by decide +kernel
theorem d_Cache_writeFileOut_5 : decode prog_3_method_9_code 5 = .ok (.iconst 4, 1) := by decide +kernel
theorem d_Cache_writeFileOut_6 : decode prog_3_method_9_code 6 = .ok (.if_icmp .ge 56, 3) := by decide +kernel
theorem d_Cache_writeFileOut_9 : decode prog_3_method_9_code 9 = .ok (.aload_n 0, 1) := by decide +kernel
theorem d_Cache_writeFileOut_10 : decode prog_3_method_9_code 10 = .ok (.iload_n 1, 1) := by decide +kernel
theorem d_Cache_writeFileOut_11 : decode prog_3_method_9_code 11 = .ok (.iload_n 3, 1) := by decide +kernel
theorem d_Cache_writeFileOut_12 : decode prog_3_method_9_code 12 = .ok (.invokevirtual 37, 3) := by decide +kernel
theorem d_Cache_writeFileOut_15 : decode prog_3_method_9_code 15 = .ok (.istore 4, 2) := by decide +kernel
theorem d_Cache_writeFileOut_17 : decode prog_3_method_9_code 17 = .ok (.iload 4, 2) := by decide +kernel
theorem d_Cache_writeFileOut_19 : decode prog_3_method_9_code 19 = .ok (.iconst (-1), 1) := by decide +kernel
theorem d_Cache_writeFileOut_20 : decode prog_3_method_9_code 20 = .ok (.if_icmp .eq 36, 3) := by decide +kernel
theorem d_Cache_writeFileOut_23 : decode prog_3_method_9_code 23 = .ok (.aload_n 0, 1) := by decide +kernel
theorem d_Cache_writeFileOut_24 : decode prog_3_method_9_code 24 = .ok (.getfield 17, 3) := by decide +kernel
theorem d_Cache_writeFileOut_27 : decode prog_3_method_9_code 27 = .ok (.iload 4, 2) := by decide +kernel
theorem d_Cache_writeFileOut_29 : decode prog_3_method_9_code 29 = .ok (.aaload, 1) := by decide +kernel
theorem d_Cache_writeFileOut_30 : decode prog_3_method_9_code 30 = .ok (.getfield 33, 3) := by decide +kernel
theorem d_Cache_writeFileOut_33 : decode prog_3_method_9_code 33 = .ok (.ifCond .eq 23, 3) := by decide +kernel
theorem d_Cache_writeFileOut_36 : decode prog_3_method_9_code 36 = .ok (.aload_n 0, 1) := by decide +kernel
theorem d_Cache_writeFileOut_37 : decode prog_3_method_9_code 37 = .ok (.aload_n 0, 1) := by decide +kernel
theorem d_Cache_writeFileOut_38 : decode prog_3_method_9_code 38 = .ok (.getfield 17, 3) := by decide +kernel
theorem d_Cache_writeFileOut_41 : decode prog_3_method_9_code 41 = .ok (.iload 4, 2) := by decide +kernel
theorem d_Cache_writeFileOut_43 : decode prog_3_method_9_code 43 = .ok (.aaload, 1) := by decide +kernel
theorem d_Cache_writeFileOut_44 : decode prog_3_method_9_code 44 = .ok (.invokevirtual 49, 3) := by decide +kernel
theorem d_Cache_writeFileOut_47 : decode prog_3_method_9_code 47 = .ok (.ifCond .ne 6, 3) := by decide +kernel
theorem d_Cache_writeFileOut_50 : decode prog_3_method_9_code 50 = .ok (.bipush (-8), 2) := by decide +kernel
theorem d_Cache_writeFileOut_52 : decode prog_3_method_9_code 52 = .ok (.ireturn, 1) := by decide +kernel
theorem d_Cache_writeFileOut_53 : decode prog_3_method_9_code 53 = .ok (.iinc 2 1, 3) := by decide +kernel
theorem d_Cache_writeFileOut_56 : decode prog_3_method_9_code 56 = .ok (.iinc 3 1, 3) := by decide +kernel
theorem d_Cache_writeFileOut_59 : decode prog_3_method_9_code 59 = .ok (.goto (-55), 3) := by decide +kernel
theorem d_Cache_writeFileOut_62 : decode prog_3_method_9_code 62 = .ok (.iload_n 2, 1) := by decide +kernel
theorem d_Cache_writeFileOut_63 : decode prog_3_method_9_code 63 = .ok (.ireturn, 1) := by decide +kernel
theorem d_Cache_startAnew_0 : decode prog_3_method_11_code 0 = .ok (.aload_n 0, 1) := by decide +kernel
theorem d_Cache_startAnew_1 : decode prog_3_method_11_code 1 = .ok (.iconst 0, 1) := by decide +kernel
theorem d_Cache_startAnew_2 : decode prog_3_method_11_code 2 = .ok (.putfield 21, 3) := by decide +kernel
theorem d_Cache_startAnew_5 : decode prog_3_method_11_code 5 = .ok (.iconst 0, 1) := by decide +kernel
theorem d_Cache_startAnew_6 : decode prog_3_method_11_code 6 = .ok (.istore_n 1, 1) := by decide +kernel
theorem d_Cache_startAnew_7 : decode prog_3_method_11_code 7 = .ok (.iload_n 1, 1) := by decide +kernel
theorem d_Cache_startAnew_8 : decode prog_3_method_11_code 8 = .ok (.bipush 8, 2) := by decide +kernel
theorem d_Cache_startAnew_10 : decode prog_3_method_11_code 10 = .ok (.if_icmp .ge 23, 3) := by decide +kernel
theorem d_Cache_startAnew_13 : decode prog_3_method_11_code 13 = .ok (.aload_n 0, 1) := by decide +kernel
theorem d_Cache_startAnew_14 : decode prog_3_method_11_code 14 = .ok (.getfield 9, 3) := by decide +kernel
theorem d_Cache_startAnew_17 : decode prog_3_method_11_code 17 = .ok (.iload_n 1, 1) := by decide +kernel
theorem d_Cache_startAnew_18 : decode prog_3_method_11_code 18 = .ok (.aload_n 0, 1) := by decide +kernel
theorem d_Cache_startAnew_19 : decode prog_3_method_11_code 19 = .ok (.getfield 25, 3) := by decide +kernel
theorem d_Cache_startAnew_22 : decode prog_3_method_11_code 22 = .ok (.iload_n 1, 1) := by decide +kernel
theorem d_Cache_startAnew_23 : decode prog_3_method_11_code 23 = .ok (.invokevirtual 53, 3) := by decide +kernel
theorem d_Cache_startAnew_26 : decode prog_3_method_11_code 26 = .ok (.iastore, 1) := by decide +kernel
theorem d_Cache_startAnew_27 : decode prog_3_method_11_code 27 = .ok (.iinc 1 1, 3) := by decide +kernel
theorem d_Cache_startAnew_30 : decode prog_3_method_11_code 30 = .ok (.goto (-23), 3) := by decide +kernel
theorem d_Cache_startAnew_33 : decode prog_3_method_11_code 33 = .ok (.return_, 1) := by decide +kernel
theorem d_Cache_size_0 : decode prog_3_method_4_code 0 = .ok (.aload_n 0, 1) := by decide +kernel
theorem d_Cache_size_1 : decode prog_3_method_4_code 1 = .ok (.getfield 21, 3) := by decide +kernel
theorem d_Cache_size_4 : decode prog_3_method_4_code 4 = .ok (.ireturn, 1) := by decide +kernel
theorem d_Cache_blockAt_0 : decode prog_3_method_5_code 0 = .ok (.aload_n 0, 1) := by decide +kernel
theorem d_Cache_blockAt_1 : decode prog_3_method_5_code 1 = .ok (.getfield 17, 3) := by decide +kernel
theorem d_Cache_blockAt_4 : decode prog_3_method_5_code 4 = .ok (.iload_n 1, 1) := by decide +kernel
theorem d_Cache_blockAt_5 : decode prog_3_method_5_code 5 = .ok (.aaload, 1) := by decide +kernel
theorem d_Cache_blockAt_6 : decode prog_3_method_5_code 6 = .ok (.areturn, 1) := by decide +kernel
theorem d_Cache_dirtyBlocks_0 : decode prog_3_method_7_code 0 = .ok (.iconst 0, 1) := by decide +kernel
theorem d_Cache_dirtyBlocks_1 : decode prog_3_method_7_code 1 = .ok (.istore_n 1, 1) := by decide +kernel
theorem d_Cache_dirtyBlocks_2 : decode prog_3_method_7_code 2 = .ok (.iconst 0, 1) := by decide +kernel
theorem d_Cache_dirtyBlocks_3 : decode prog_3_method_7_code 3 = .ok (.istore_n 2, 1) := by decide +kernel
theorem d_Cache_dirtyBlocks_4 : decode prog_3_method_7_code 4 = .ok (.iload_n 2, 1) := by decide +kernel
theorem d_Cache_dirtyBlocks_5 : decode prog_3_method_7_code 5 = .ok (.aload_n 0, 1) := by decide +kernel
theorem d_Cache_dirtyBlocks_6 : decode prog_3_method_7_code 6 = .ok (.getfield 21, 3) := by decide +kernel
theorem d_Cache_dirtyBlocks_9 : decode prog_3_method_7_code 9 = .ok (.if_icmp .ge 24, 3) := by decide +kernel
theorem d_Cache_dirtyBlocks_12 : decode prog_3_method_7_code 12 = .ok (.aload_n 0, 1) := by decide +kernel
theorem d_Cache_dirtyBlocks_13 : decode prog_3_method_7_code 13 = .ok (.getfield 17, 3) := by decide +kernel
theorem d_Cache_dirtyBlocks_16 : decode prog_3_method_7_code 16 = .ok (.iload_n 2, 1) := by decide +kernel
theorem d_Cache_dirtyBlocks_17 : decode prog_3_method_7_code 17 = .ok (.aaload, 1) := by decide +kernel
theorem d_Cache_dirtyBlocks_18 : decode prog_3_method_7_code 18 = .ok (.getfield 33, 3) := by decide +kernel
theorem d_Cache_dirtyBlocks_21 : decode prog_3_method_7_code 21 = .ok (.ifCond .eq 6, 3) := by decide +kernel
theorem d_Cache_dirtyBlocks_24 : decode prog_3_method_7_code 24 = .ok (.iinc 1 1, 3) := by decide +kernel
theorem d_Cache_dirtyBlocks_27 : decode prog_3_method_7_code 27 = .ok (.iinc 2 1, 3) := by decide +kernel
theorem d_Cache_dirtyBlocks_30 : decode prog_3_method_7_code 30 = .ok (.goto (-26), 3) := by decide +kernel
theorem d_Cache_dirtyBlocks_33 : decode prog_3_method_7_code 33 = .ok (.iload_n 1, 1) := by decide +kernel
theorem d_Cache_dirtyBlocks_34 : decode prog_3_method_7_code 34 = .ok (.ireturn, 1) := by decide +kernel
end
section
/-! decode rows, by program -/
theorem d_Host_init_0 : decode prog_4_method_1_code 0 = .ok (.aload_n 0, 1) := by decide +kernel
theorem d_Host_init_1 : decode prog_4_method_1_code 1 = .ok (.invokespecial 3, 3) := by decide +kernel
theorem d_Host_init_4 : decode prog_4_method_1_code 4 = .ok (.aload_n 0, 1) := by decide +kernel
theorem d_Host_init_5 : decode prog_4_method_1_code 5 = .ok (.bipush 8, 2) := by decide +kernel
theorem d_Host_init_7 : decode prog_4_method_1_code 7 = .ok (.newarray .boolean, 2) := by decide +kernel
theorem d_Host_init_9 : decode prog_4_method_1_code 9 = .ok (.putfield 9, 3) := by decide +kernel
theorem d_Host_init_12 : decode prog_4_method_1_code 12 = .ok (.aload_n 0, 1) := by decide +kernel
theorem d_Host_init_13 : decode prog_4_method_1_code 13 = .ok (.bipush 8, 2) := by decide +kernel
theorem d_Host_init_15 : decode prog_4_method_1_code 15 = .ok (.newarray .int, 2) := by decide +kernel
theorem d_Host_init_17 : decode prog_4_method_1_code 17 = .ok (.putfield 15, 3) := by decide +kernel
theorem d_Host_init_20 : decode prog_4_method_1_code 20 = .ok (.aload_n 0, 1) := by decide +kernel
theorem d_Host_init_21 : decode prog_4_method_1_code 21 = .ok (.sipush 256, 3) := by decide +kernel
theorem d_Host_init_24 : decode prog_4_method_1_code 24 = .ok (.newarray .int, 2) := by decide +kernel
theorem d_Host_init_26 : decode prog_4_method_1_code 26 = .ok (.putfield 19, 3) := by decide +kernel
theorem d_Host_init_29 : decode prog_4_method_1_code 29 = .ok (.aload_n 0, 1) := by decide +kernel
theorem d_Host_init_30 : decode prog_4_method_1_code 30 = .ok (.bipush 16, 2) := by decide +kernel
theorem d_Host_init_32 : decode prog_4_method_1_code 32 = .ok (.newarray .int, 2) := by decide +kernel
theorem d_Host_init_34 : decode prog_4_method_1_code 34 = .ok (.putfield 22, 3) := by decide +kernel
theorem d_Host_init_37 : decode prog_4_method_1_code 37 = .ok (.aload_n 0, 1) := by decide +kernel
theorem d_Host_init_38 : decode prog_4_method_1_code 38 = .ok (.iconst 0, 1) := by decide +kernel
theorem d_Host_init_39 : decode prog_4_method_1_code 39 = .ok (.putfield 25, 3) := by decide +kernel
theorem d_Host_init_42 : decode prog_4_method_1_code 42 = .ok (.aload_n 0, 1) := by decide +kernel
theorem d_Host_init_43 : decode prog_4_method_1_code 43 = .ok (.iconst 0, 1) := by decide +kernel
theorem d_Host_init_44 : decode prog_4_method_1_code 44 = .ok (.putfield 29, 3) := by decide +kernel
theorem d_Host_init_47 : decode prog_4_method_1_code 47 = .ok (.return_, 1) := by decide +kernel
theorem d_Host_place_0 : decode prog_4_method_9_code 0 = .ok (.aload_n 0, 1) := by decide +kernel
theorem d_Host_place_1 : decode prog_4_method_9_code 1 = .ok (.iload_n 1, 1) := by decide +kernel
theorem d_Host_place_2 : decode prog_4_method_9_code 2 = .ok (.invokevirtual 32, 3) := by decide +kernel
theorem d_Host_place_5 : decode prog_4_method_9_code 5 = .ok (.aload_n 0, 1) := by decide +kernel
theorem d_Host_place_6 : decode prog_4_method_9_code 6 = .ok (.getfield 9, 3) := by decide +kernel
theorem d_Host_place_9 : decode prog_4_method_9_code 9 = .ok (.iload_n 1, 1) := by decide +kernel
theorem d_Host_place_10 : decode prog_4_method_9_code 10 = .ok (.iconst 1, 1) := by decide +kernel
theorem d_Host_place_11 : decode prog_4_method_9_code 11 = .ok (.bastore, 1) := by decide +kernel
theorem d_Host_place_12 : decode prog_4_method_9_code 12 = .ok (.aload_n 0, 1) := by decide +kernel
theorem d_Host_place_13 : decode prog_4_method_9_code 13 = .ok (.getfield 15, 3) := by decide +kernel
theorem d_Host_place_16 : decode prog_4_method_9_code 16 = .ok (.iload_n 1, 1) := by decide +kernel
theorem d_Host_place_17 : decode prog_4_method_9_code 17 = .ok (.iload_n 2, 1) := by decide +kernel
theorem d_Host_place_18 : decode prog_4_method_9_code 18 = .ok (.iastore, 1) := by decide +kernel
theorem d_Host_place_19 : decode prog_4_method_9_code 19 = .ok (.iconst 0, 1) := by decide +kernel
theorem d_Host_place_20 : decode prog_4_method_9_code 20 = .ok (.istore 4, 2) := by decide +kernel
theorem d_Host_place_22 : decode prog_4_method_9_code 22 = .ok (.iload 4, 2) := by decide +kernel
theorem d_Host_place_24 : decode prog_4_method_9_code 24 = .ok (.iload_n 2, 1) := by decide +kernel
theorem d_Host_place_25 : decode prog_4_method_9_code 25 = .ok (.if_icmp .ge 32, 3) := by decide +kernel
theorem d_Host_place_28 : decode prog_4_method_9_code 28 = .ok (.aload_n 0, 1) := by decide +kernel
theorem d_Host_place_29 : decode prog_4_method_9_code 29 = .ok (.getfield 19, 3) := by decide +kernel
theorem d_Host_place_32 : decode prog_4_method_9_code 32 = .ok (.iload_n 1, 1) := by decide +kernel
theorem d_Host_place_33 : decode prog_4_method_9_code 33 = .ok (.bipush 32, 2) := by decide +kernel
theorem d_Host_place_35 : decode prog_4_method_9_code 35 = .ok (.imul, 1) := by decide +kernel
theorem d_Host_place_36 : decode prog_4_method_9_code 36 = .ok (.iload 4, 2) := by decide +kernel
theorem d_Host_place_38 : decode prog_4_method_9_code 38 = .ok (.iadd, 1) := by decide +kernel
theorem d_Host_place_39 : decode prog_4_method_9_code 39 = .ok (.iload_n 3, 1) := by decide +kernel
theorem d_Host_place_40 : decode prog_4_method_9_code 40 = .ok (.bipush 7, 2) := by decide +kernel
theorem d_Host_place_42 : decode prog_4_method_9_code 42 = .ok (.iload 4, 2) := by decide +kernel
theorem d_Host_place_44 : decode prog_4_method_9_code 44 = .ok (.imul, 1) := by decide +kernel
theorem d_Host_place_45 : decode prog_4_method_9_code 45 = .ok (.iadd, 1) := by decide +kernel
theorem d_Host_place_46 : decode prog_4_method_9_code 46 = .ok (.sipush 255, 3) := by decide +kernel
theorem d_Host_place_49 : decode prog_4_method_9_code 49 = .ok (.iand, 1) := by decide +kernel
theorem d_Host_place_50 : decode prog_4_method_9_code 50 = .ok (.iastore, 1) := by decide +kernel
theorem d_Host_place_51 : decode prog_4_method_9_code 51 = .ok (.iinc 4 1, 3) := by decide +kernel
theorem d_Host_place_54 : decode prog_4_method_9_code 54 = .ok (.goto (-32), 3) := by decide +kernel
theorem d_Host_place_57 : decode prog_4_method_9_code 57 = .ok (.return_, 1) := by decide +kernel
theorem d_Host_clear_0 : decode prog_4_method_15_code 0 = .ok (.aload_n 0, 1) := by decide +kernel
theorem d_Host_clear_1 : decode prog_4_method_15_code 1 = .ok (.getfield 15, 3) := by decide +kernel
theorem d_Host_clear_4 : decode prog_4_method_15_code 4 = .ok (.iload_n 1, 1) := by decide +kernel
theorem d_Host_clear_5 : decode prog_4_method_15_code 5 = .ok (.iconst 0, 1) := by decide +kernel
theorem d_Host_clear_6 : decode prog_4_method_15_code 6 = .ok (.iastore, 1) := by decide +kernel
theorem d_Host_clear_7 : decode prog_4_method_15_code 7 = .ok (.aload_n 0, 1) := by decide +kernel
theorem d_Host_clear_8 : decode prog_4_method_15_code 8 = .ok (.getfield 19, 3) := by decide +kernel
theorem d_Host_clear_11 : decode prog_4_method_15_code 11 = .ok (.iload_n 1, 1) := by decide +kernel
theorem d_Host_clear_12 : decode prog_4_method_15_code 12 = .ok (.bipush 32, 2) := by decide +kernel
theorem d_Host_clear_14 : decode prog_4_method_15_code 14 = .ok (.imul, 1) := by decide +kernel
theorem d_Host_clear_15 : decode prog_4_method_15_code 15 = .ok (.iload_n 1, 1) := by decide +kernel
theorem d_Host_clear_16 : decode prog_4_method_15_code 16 = .ok (.iconst 1, 1) := by decide +kernel
theorem d_Host_clear_17 : decode prog_4_method_15_code 17 = .ok (.iadd, 1) := by decide +kernel
theorem d_Host_clear_18 : decode prog_4_method_15_code 18 = .ok (.bipush 32, 2) := by decide +kernel
theorem d_Host_clear_20 : decode prog_4_method_15_code 20 = .ok (.imul, 1) := by decide +kernel
theorem d_Host_clear_21 : decode prog_4_method_15_code 21 = .ok (.iconst 0, 1) := by decide +kernel
theorem d_Host_clear_22 : decode prog_4_method_15_code 22 = .ok (.invokestatic 55, 3) := by decide +kernel
theorem d_Host_clear_25 : decode prog_4_method_15_code 25 = .ok (.return_, 1) := by decide +kernel
theorem d_Host_setToFail_0 : decode prog_4_method_8_code 0 = .ok (.aload_n 0, 1) := by decide +kernel
theorem d_Host_setToFail_1 : decode prog_4_method_8_code 1 = .ok (.iload_n 1, 1) := by decide +kernel
theorem d_Host_setToFail_2 : decode prog_4_method_8_code 2 = .ok (.putfield 29, 3) := by decide +kernel
theorem d_Host_setToFail_5 : decode prog_4_method_8_code 5 = .ok (.return_, 1) := by decide +kernel
theorem d_Host_isThere_0 : decode prog_4_method_2_code 0 = .ok (.aload_n 0, 1) := by decide +kernel
theorem d_Host_isThere_1 : decode prog_4_method_2_code 1 = .ok (.getfield 9, 3) := by decide +kernel
theorem d_Host_isThere_4 : decode prog_4_method_2_code 4 = .ok (.iload_n 1, 1) := by decide +kernel
theorem d_Host_isThere_5 : decode prog_4_method_2_code 5 = .ok (.baload, 1) := by decide +kernel
theorem d_Host_isThere_6 : decode prog_4_method_2_code 6 = .ok (.ireturn, 1) := by decide +kernel
theorem d_Host_makeFile_0 : decode prog_4_method_10_code 0 = .ok (.aload_n 0, 1) := by decide +kernel
theorem d_Host_makeFile_1 : decode prog_4_method_10_code 1 = .ok (.iconst 2, 1) := by decide +kernel
theorem d_Host_makeFile_2 : decode prog_4_method_10_code 2 = .ok (.iload_n 1, 1) := by decide +kernel
theorem d_Host_makeFile_3 : decode prog_4_method_10_code 3 = .ok (.iconst 0, 1) := by decide +kernel
theorem d_Host_makeFile_4 : decode prog_4_method_10_code 4 = .ok (.invokevirtual 36, 3) := by decide +kernel
theorem d_Host_makeFile_7 : decode prog_4_method_10_code 7 = .ok (.ifCond .ne 5, 3) := by decide +kernel
theorem d_Host_makeFile_10 : decode prog_4_method_10_code 10 = .ok (.iconst 0, 1) := by decide +kernel
theorem d_Host_makeFile_11 : decode prog_4_method_10_code 11 = .ok (.ireturn, 1) := by decide +kernel
theorem d_Host_makeFile_12 : decode prog_4_method_10_code 12 = .ok (.aload_n 0, 1) := by decide +kernel
theorem d_Host_makeFile_13 : decode prog_4_method_10_code 13 = .ok (.iload_n 1, 1) := by decide +kernel
theorem d_Host_makeFile_14 : decode prog_4_method_10_code 14 = .ok (.invokevirtual 32, 3) := by decide +kernel
theorem d_Host_makeFile_17 : decode prog_4_method_10_code 17 = .ok (.aload_n 0, 1) := by decide +kernel
theorem d_Host_makeFile_18 : decode prog_4_method_10_code 18 = .ok (.getfield 9, 3) := by decide +kernel
theorem d_Host_makeFile_21 : decode prog_4_method_10_code 21 = .ok (.iload_n 1, 1) := by decide +kernel
theorem d_Host_makeFile_22 : decode prog_4_method_10_code 22 = .ok (.iconst 1, 1) := by decide +kernel
theorem d_Host_makeFile_23 : decode prog_4_method_10_code 23 = .ok (.bastore, 1) := by decide +kernel
theorem d_Host_makeFile_24 : decode prog_4_method_10_code 24 = .ok (.iconst 1, 1) := by decide +kernel
theorem d_Host_makeFile_25 : decode prog_4_method_10_code 25 = .ok (.ireturn, 1) := by decide +kernel
theorem d_Host_succeeds_0 : decode prog_4_method_16_code 0 = .ok (.aload_n 0, 1) := by decide +kernel
theorem d_Host_succeeds_1 : decode prog_4_method_16_code 1 = .ok (.getfield 29, 3) := by decide +kernel
theorem d_Host_succeeds_4 : decode prog_4_method_16_code 4 = .ok (.ifCond .le 7, 3) := by decide +kernel
theorem d_Host_succeeds_7 : decode prog_4_method_16_code 7 = .ok (.iconst 1, 1) := by decide +kernel
theorem d_Host_succeeds_8 : decode prog_4_method_16_code 8 = .ok (.goto 4, 3) := by decide +kernel
theorem d_Host_succeeds_11 : decode prog_4_method_16_code 11 = .ok (.iconst 0, 1) := by decide +kernel
theorem d_Host_succeeds_12 : decode prog_4_method_16_code 12 = .ok (.istore 4, 2) := by decide +kernel
theorem d_Host_succeeds_14 : decode prog_4_method_16_code 14 = .ok (.iload_n 1, 1) := by decide +kernel
theorem d_Host_succeeds_15 : decode prog_4_method_16_code 15 = .ok (.bipush 8, 2) := by decide +kernel
theorem d_Host_succeeds_17 : decode prog_4_method_16_code 17 = .ok (.iload_n 2, 1) := by decide +kernel
theorem d_Host_succeeds_18 : decode prog_4_method_16_code 18 = .ok (.imul, 1) := by decide +kernel
theorem d_Host_succeeds_19 : decode prog_4_method_16_code 19 = .ok (.iadd, 1) := by decide +kernel
theorem d_Host_succeeds_20 : decode prog_4_method_16_code 20 = .ok (.bipush 64, 2) := by decide +kernel
theorem d_Host_succeeds_22 : decode prog_4_method_16_code 22 = .ok (.iload_n 3, 1) := by decide +kernel
theorem d_Host_succeeds_23 : decode prog_4_method_16_code 23 = .ok (.imul, 1) := by decide +kernel
theorem d_Host_succeeds_24 : decode prog_4_method_16_code 24 = .ok (.iadd, 1) := by decide +kernel
theorem d_Host_succeeds_25 : decode prog_4_method_16_code 25 = .ok (.istore 5, 2) := by decide +kernel
theorem d_Host_succeeds_27 : decode prog_4_method_16_code 27 = .ok (.aload_n 0, 1) := by decide +kernel
theorem d_Host_succeeds_28 : decode prog_4_method_16_code 28 = .ok (.getfield 22, 3) := by decide +kernel
theorem d_Host_succeeds_31 : decode prog_4_method_16_code 31 = .ok (.aload_n 0, 1) := by decide +kernel
theorem d_Host_succeeds_32 : decode prog_4_method_16_code 32 = .ok (.getfield 25, 3) := by decide +kernel
theorem d_Host_succeeds_35 : decode prog_4_method_16_code 35 = .ok (.bipush 16, 2) := by decide +kernel
theorem d_Host_succeeds_37 : decode prog_4_method_16_code 37 = .ok (.irem, 1) := by decide +kernel
theorem d_Host_succeeds_38 : decode prog_4_method_16_code 38 = .ok (.iload 4, 2) := by decide +kernel
theorem d_Host_succeeds_40 : decode prog_4_method_16_code 40 = .ok (.ifCond .eq 12, 3) := by decide +kernel
theorem d_Host_succeeds_43 : decode prog_4_method_16_code 43 = .ok (.iload 5, 2) := by decide +kernel
theorem d_Host_succeeds_45 : decode prog_4_method_16_code 45 = .ok (.sipush 256, 3) := by decide +kernel
theorem d_Host_succeeds_48 : decode prog_4_method_16_code 48 = .ok (.iadd, 1) := by decide +kernel
theorem d_Host_succeeds_49 : decode prog_4_method_16_code 49 = .ok (.goto 5, 3) := by decide +kernel
theorem d_Host_succeeds_52 : decode prog_4_method_16_code 52 = .ok (.iload 5, 2) := by decide +kernel
theorem d_Host_succeeds_54 : decode prog_4_method_16_code 54 = .ok (.iastore, 1) := by decide +kernel
theorem d_Host_succeeds_55 : decode prog_4_method_16_code 55 = .ok (.aload_n 0, 1) := by decide +kernel
theorem d_Host_succeeds_56 : decode prog_4_method_16_code 56 = .ok (.dup, 1) := by decide +kernel
theorem d_Host_succeeds_57 : decode prog_4_method_16_code 57 = .ok (.getfield 25, 3) := by decide +kernel
theorem d_Host_succeeds_60 : decode prog_4_method_16_code 60 = .ok (.iconst 1, 1) := by decide +kernel
theorem d_Host_succeeds_61 : decode prog_4_method_16_code 61 = .ok (.iadd, 1) := by decide +kernel
theorem d_Host_succeeds_62 : decode prog_4_method_16_code 62 = .ok (.putfield 25, 3) := by decide +kernel
theorem d_Host_succeeds_65 : decode prog_4_method_16_code 65 = .ok (.iload 4, 2) := by decide +kernel
theorem d_Host_succeeds_67 : decode prog_4_method_16_code 67 = .ok (.ifCond .eq 13, 3) := by decide +kernel
theorem d_Host_succeeds_70 : decode prog_4_method_16_code 70 = .ok (.aload_n 0, 1) := by decide +kernel
theorem d_Host_succeeds_71 : decode prog_4_method_16_code 71 = .ok (.dup, 1) := by decide +kernel
theorem d_Host_succeeds_72 : decode prog_4_method_16_code 72 = .ok (.getfield 29, 3) := by decide +kernel
theorem d_Host_succeeds_75 : decode prog_4_method_16_code 75 = .ok (.iconst 1, 1) := by decide +kernel
theorem d_Host_succeeds_76 : decode prog_4_method_16_code 76 = .ok (.isub, 1) := by decide +kernel
theorem d_Host_succeeds_77 : decode prog_4_method_16_code 77 = .ok (.putfield 29, 3) := by decide +kernel
theorem d_Host_succeeds_80 : decode prog_4_method_16_code 80 = .ok (.iload 4, 2) := by decide +kernel
theorem d_Host_succeeds_82 : decode prog_4_method_16_code 82 = .ok (.ifCond .ne 7, 3) := by decide +kernel
theorem d_Host_succeeds_85 : decode prog_4_method_16_code 85 = .ok (.iconst 1, 1) := by decide +kernel
theorem d_Host_succeeds_86 : decode prog_4_method_16_code 86 = .ok (.goto 4, 3) := by decide +kernel
theorem d_Host_succeeds_89 : decode prog_4_method_16_code 89 = .ok (.iconst 0, 1) := by decide +kernel
theorem d_Host_succeeds_90 : decode prog_4_method_16_code 90 = .ok (.ireturn, 1) := by decide +kernel
theorem d_Host_emptyFile_0 : decode prog_4_method_11_code 0 = .ok (.aload_n 0, 1) := by decide +kernel
theorem d_Host_emptyFile_1 : decode prog_4_method_11_code 1 = .ok (.iconst 3, 1) := by decide +kernel
theorem d_Host_emptyFile_2 : decode prog_4_method_11_code 2 = .ok (.iload_n 1, 1) := by decide +kernel
theorem d_Host_emptyFile_3 : decode prog_4_method_11_code 3 = .ok (.iconst 0, 1) := by decide +kernel
theorem d_Host_emptyFile_4 : decode prog_4_method_11_code 4 = .ok (.invokevirtual 36, 3) := by decide +kernel
theorem d_Host_emptyFile_7 : decode prog_4_method_11_code 7 = .ok (.ifCond .ne 5, 3) := by decide +kernel
theorem d_Host_emptyFile_10 : decode prog_4_method_11_code 10 = .ok (.iconst 0, 1) := by decide +kernel
theorem d_Host_emptyFile_11 : decode prog_4_method_11_code 11 = .ok (.ireturn, 1) := by decide +kernel
theorem d_Host_emptyFile_12 : decode prog_4_method_11_code 12 = .ok (.aload_n 0, 1) := by decide +kernel
theorem d_Host_emptyFile_13 : decode prog_4_method_11_code 13 = .ok (.iload_n 1, 1) := by decide +kernel
theorem d_Host_emptyFile_14 : decode prog_4_method_11_code 14 = .ok (.invokevirtual 32, 3) := by decide +kernel
theorem d_Host_emptyFile_17 : decode prog_4_method_11_code 17 = .ok (.iconst 1, 1) := by decide +kernel
theorem d_Host_emptyFile_18 : decode prog_4_method_11_code 18 = .ok (.ireturn, 1) := by decide +kernel
theorem d_Host_writeBlock_0 : decode prog_4_method_14_code 0 = .ok (.aload_n 0, 1) := by decide +kernel
theorem d_Host_writeBlock_1 : decode prog_4_method_14_code 1 = .ok (.iconst 1, 1) := by decide +kernel
theorem d_Host_writeBlock_2 : decode prog_4_method_14_code 2 = .ok (.iload_n 1, 1) := by decide +kernel
theorem d_Host_writeBlock_3 : decode prog_4_method_14_code 3 = .ok (.iload_n 2, 1) := by decide +kernel
theorem d_Host_writeBlock_4 : decode prog_4_method_14_code 4 = .ok (.invokevirtual 36, 3) := by decide +kernel
theorem d_Host_writeBlock_7 : decode prog_4_method_14_code 7 = .ok (.ifCond .ne 5, 3) := by decide +kernel
theorem d_Host_writeBlock_10 : decode prog_4_method_14_code 10 = .ok (.iconst 0, 1) := by decide +kernel
theorem d_Host_writeBlock_11 : decode prog_4_method_14_code 11 = .ok (.ireturn, 1) := by decide +kernel
theorem d_Host_writeBlock_12 : decode prog_4_method_14_code 12 = .ok (.iload_n 2, 1) := by decide +kernel
theorem d_Host_writeBlock_13 : decode prog_4_method_14_code 13 = .ok (.bipush 8, 2) := by decide +kernel
theorem d_Host_writeBlock_15 : decode prog_4_method_14_code 15 = .ok (.imul, 1) := by decide +kernel
theorem d_Host_writeBlock_16 : decode prog_4_method_14_code 16 = .ok (.istore 5, 2) := by decide +kernel
theorem d_Host_writeBlock_18 : decode prog_4_method_14_code 18 = .ok (.iload 5, 2) := by decide +kernel
theorem d_Host_writeBlock_20 : decode prog_4_method_14_code 20 = .ok (.bipush 8, 2) := by decide +kernel
theorem d_Host_writeBlock_22 : decode prog_4_method_14_code 22 = .ok (.iadd, 1) := by decide +kernel
theorem d_Host_writeBlock_23 : decode prog_4_method_14_code 23 = .ok (.iload 4, 2) := by decide +kernel
theorem d_Host_writeBlock_25 : decode prog_4_method_14_code 25 = .ok (.invokestatic 46, 3) := by decide +kernel
theorem d_Host_writeBlock_28 : decode prog_4_method_14_code 28 = .ok (.istore 6, 2) := by decide +kernel
theorem d_Host_writeBlock_30 : decode prog_4_method_14_code 30 = .ok (.iload 5, 2) := by decide +kernel
theorem d_Host_writeBlock_32 : decode prog_4_method_14_code 32 = .ok (.istore 7, 2) := by decide +kernel
theorem d_Host_writeBlock_34 : decode prog_4_method_14_code 34 = .ok (.iload 7, 2) := by decide +kernel
theorem d_Host_writeBlock_36 : decode prog_4_method_14_code 36 = .ok (.iload 6, 2) := by decide +kernel
theorem d_Host_writeBlock_38 : decode prog_4_method_14_code 38 = .ok (.if_icmp .ge 28, 3) := by decide +kernel
theorem d_Host_writeBlock_41 : decode prog_4_method_14_code 41 = .ok (.aload_n 0, 1) := by decide +kernel
theorem d_Host_writeBlock_42 : decode prog_4_method_14_code 42 = .ok (.getfield 19, 3) := by decide +kernel
theorem d_Host_writeBlock_45 : decode prog_4_method_14_code 45 = .ok (.iload_n 1, 1) := by decide +kernel
theorem d_Host_writeBlock_46 : decode prog_4_method_14_code 46 = .ok (.bipush 32, 2) := by decide +kernel
theorem d_Host_writeBlock_48 : decode prog_4_method_14_code 48 = .ok (.imul, 1) := by decide +kernel
theorem d_Host_writeBlock_49 : decode prog_4_method_14_code 49 = .ok (.iload 7, 2) := by decide +kernel
theorem d_Host_writeBlock_51 : decode prog_4_method_14_code 51 = .ok (.iadd, 1) := by decide +kernel
theorem d_Host_writeBlock_52 : decode prog_4_method_14_code 52 = .ok (.aload_n 3, 1) := by decide +kernel
theorem d_Host_writeBlock_53 : decode prog_4_method_14_code 53 = .ok (.iload 7, 2) := by decide +kernel
theorem d_Host_writeBlock_55 : decode prog_4_method_14_code 55 = .ok (.iload 5, 2) := by decide +kernel
theorem d_Host_writeBlock_57 : decode prog_4_method_14_code 57 = .ok (.isub, 1) := by decide +kernel
theorem d_Host_writeBlock_58 : decode prog_4_method_14_code 58 = .ok (.iaload, 1) := by decide +kernel
theorem d_Host_writeBlock_59 : decode prog_4_method_14_code 59 = .ok (.iastore, 1) := by decide +kernel
theorem d_Host_writeBlock_60 : decode prog_4_method_14_code 60 = .ok (.iinc 7 1, 3) := by decide +kernel
theorem d_Host_writeBlock_63 : decode prog_4_method_14_code 63 = .ok (.goto (-29), 3) := by decide +kernel
theorem d_Host_writeBlock_66 : decode prog_4_method_14_code 66 = .ok (.aload_n 0, 1) := by decide +kernel
theorem d_Host_writeBlock_67 : decode prog_4_method_14_code 67 = .ok (.getfield 15, 3) := by decide +kernel
theorem d_Host_writeBlock_70 : decode prog_4_method_14_code 70 = .ok (.iload_n 1, 1) := by decide +kernel
theorem d_Host_writeBlock_71 : decode prog_4_method_14_code 71 = .ok (.aload_n 0, 1) := by decide +kernel
theorem d_Host_writeBlock_72 : decode prog_4_method_14_code 72 = .ok (.getfield 15, 3) := by decide +kernel
theorem d_Host_writeBlock_75 : decode prog_4_method_14_code 75 = .ok (.iload_n 1, 1) := by decide +kernel
theorem d_Host_writeBlock_76 : decode prog_4_method_14_code 76 = .ok (.iaload, 1) := by decide +kernel
theorem d_Host_writeBlock_77 : decode prog_4_method_14_code 77 = .ok (.iload 6, 2) := by decide +kernel
theorem d_Host_writeBlock_79 : decode prog_4_method_14_code 79 = .ok (.invokestatic 52, 3) := by decide +kernel
theorem d_Host_writeBlock_82 : decode prog_4_method_14_code 82 = .ok (.iastore, 1) := by decide +kernel
theorem d_Host_writeBlock_83 : decode prog_4_method_14_code 83 = .ok (.iconst 1, 1) := by decide +kernel
theorem d_Host_writeBlock_84 : decode prog_4_method_14_code 84 = .ok (.ireturn, 1) := by decide +kernel
theorem d_Host_readBlock_0 : decode prog_4_method_13_code 0 = .ok (.aload_n 0, 1) := by decide +kernel
theorem d_Host_readBlock_1 : decode prog_4_method_13_code 1 = .ok (.iconst 0, 1) := by decide +kernel
theorem d_Host_readBlock_2 : decode prog_4_method_13_code 2 = .ok (.iload_n 1, 1) := by decide +kernel
theorem d_Host_readBlock_3 : decode prog_4_method_13_code 3 = .ok (.iload_n 2, 1) := by decide +kernel
theorem d_Host_readBlock_4 : decode prog_4_method_13_code 4 = .ok (.invokevirtual 36, 3) := by decide +kernel
theorem d_Host_readBlock_7 : decode prog_4_method_13_code 7 = .ok (.ifCond .ne 5, 3) := by decide +kernel
theorem d_Host_readBlock_10 : decode prog_4_method_13_code 10 = .ok (.iconst 0, 1) := by decide +kernel
theorem d_Host_readBlock_11 : decode prog_4_method_13_code 11 = .ok (.ireturn, 1) := by decide +kernel
theorem d_Host_readBlock_12 : decode prog_4_method_13_code 12 = .ok (.iload_n 1, 1) := by decide +kernel
theorem d_Host_readBlock_13 : decode prog_4_method_13_code 13 = .ok (.bipush 32, 2) := by decide +kernel
theorem d_Host_readBlock_15 : decode prog_4_method_13_code 15 = .ok (.imul, 1) := by decide +kernel
theorem d_Host_readBlock_16 : decode prog_4_method_13_code 16 = .ok (.iload_n 2, 1) := by decide +kernel
theorem d_Host_readBlock_17 : decode prog_4_method_13_code 17 = .ok (.bipush 8, 2) := by decide +kernel
theorem d_Host_readBlock_19 : decode prog_4_method_13_code 19 = .ok (.imul, 1) := by decide +kernel
theorem d_Host_readBlock_20 : decode prog_4_method_13_code 20 = .ok (.iadd, 1) := by decide +kernel
theorem d_Host_readBlock_21 : decode prog_4_method_13_code 21 = .ok (.istore 4, 2) := by decide +kernel
theorem d_Host_readBlock_23 : decode prog_4_method_13_code 23 = .ok (.aload_n 0, 1) := by decide +kernel
theorem d_Host_readBlock_24 : decode prog_4_method_13_code 24 = .ok (.getfield 19, 3) := by decide +kernel
theorem d_Host_readBlock_27 : decode prog_4_method_13_code 27 = .ok (.iload 4, 2) := by decide +kernel
theorem d_Host_readBlock_29 : decode prog_4_method_13_code 29 = .ok (.aload_n 3, 1) := by decide +kernel
theorem d_Host_readBlock_30 : decode prog_4_method_13_code 30 = .ok (.iconst 0, 1) := by decide +kernel
theorem d_Host_readBlock_31 : decode prog_4_method_13_code 31 = .ok (.bipush 8, 2) := by decide +kernel
theorem d_Host_readBlock_33 : decode prog_4_method_13_code 33 = .ok (.invokestatic 40, 3) := by decide +kernel
theorem d_Host_readBlock_36 : decode prog_4_method_13_code 36 = .ok (.iconst 1, 1) := by decide +kernel
theorem d_Host_readBlock_37 : decode prog_4_method_13_code 37 = .ok (.ireturn, 1) := by decide +kernel
theorem d_Host_removeFile_0 : decode prog_4_method_12_code 0 = .ok (.aload_n 0, 1) := by decide +kernel
theorem d_Host_removeFile_1 : decode prog_4_method_12_code 1 = .ok (.iconst 4, 1) := by decide +kernel
theorem d_Host_removeFile_2 : decode prog_4_method_12_code 2 = .ok (.iload_n 1, 1) := by decide +kernel
theorem d_Host_removeFile_3 : decode prog_4_method_12_code 3 = .ok (.iconst 0, 1) := by decide +kernel
theorem d_Host_removeFile_4 : decode prog_4_method_12_code 4 = .ok (.invokevirtual 36, 3) := by decide +kernel
theorem d_Host_removeFile_7 : decode prog_4_method_12_code 7 = .ok (.ifCond .ne 5, 3) := by decide +kernel
theorem d_Host_removeFile_10 : decode prog_4_method_12_code 10 = .ok (.iconst 0, 1) := by decide +kernel
theorem d_Host_removeFile_11 : decode prog_4_method_12_code 11 = .ok (.ireturn, 1) := by decide +kernel
theorem d_Host_removeFile_12 : decode prog_4_method_12_code 12 = .ok (.aload_n 0, 1) := by decide +kernel
theorem d_Host_removeFile_13 : decode prog_4_method_12_code 13 = .ok (.getfield 9, 3) := by decide +kernel
theorem d_Host_removeFile_16 : decode prog_4_method_12_code 16 = .ok (.iload_n 1, 1) := by decide +kernel
theorem d_Host_removeFile_17 : decode prog_4_method_12_code 17 = .ok (.iconst 0, 1) := by decide +kernel
theorem d_Host_removeFile_18 : decode prog_4_method_12_code 18 = .ok (.bastore, 1) := by decide +kernel
theorem d_Host_removeFile_19 : decode prog_4_method_12_code 19 = .ok (.iconst 1, 1) := by decide +kernel
theorem d_Host_removeFile_20 : decode prog_4_method_12_code 20 = .ok (.ireturn, 1) := by decide +kernel
theorem d_Host_lengthOf_0 : decode prog_4_method_3_code 0 = .ok (.aload_n 0, 1) := by decide +kernel
theorem d_Host_lengthOf_1 : decode prog_4_method_3_code 1 = .ok (.getfield 15, 3) := by decide +kernel
theorem d_Host_lengthOf_4 : decode prog_4_method_3_code 4 = .ok (.iload_n 1, 1) := by decide +kernel
theorem d_Host_lengthOf_5 : decode prog_4_method_3_code 5 = .ok (.iaload, 1) := by decide +kernel
theorem d_Host_lengthOf_6 : decode prog_4_method_3_code 6 = .ok (.ireturn, 1) := by decide +kernel
theorem d_Host_cellAt_0 : decode prog_4_method_4_code 0 = .ok (.aload_n 0, 1) := by decide +kernel
theorem d_Host_cellAt_1 : decode prog_4_method_4_code 1 = .ok (.getfield 19, 3) := by decide +kernel
theorem d_Host_cellAt_4 : decode prog_4_method_4_code 4 = .ok (.iload_n 1, 1) := by decide +kernel
theorem d_Host_cellAt_5 : decode prog_4_method_4_code 5 = .ok (.bipush 32, 2) := by decide +kernel
theorem d_Host_cellAt_7 : decode prog_4_method_4_code 7 = .ok (.imul, 1) := by decide +kernel
theorem d_Host_cellAt_8 : decode prog_4_method_4_code 8 = .ok (.iload_n 2, 1) := by decide +kernel
theorem d_Host_cellAt_9 : decode prog_4_method_4_code 9 = .ok (.iadd, 1) := by decide +kernel
theorem d_Host_cellAt_10 : decode prog_4_method_4_code 10 = .ok (.iaload, 1) := by decide +kernel
theorem d_Host_cellAt_11 : decode prog_4_method_4_code 11 = .ok (.ireturn, 1) := by decide +kernel
theorem d_Host_operations_0 : decode prog_4_method_5_code 0 = .ok (.aload_n 0, 1) := by decide +kernel
theorem d_Host_operations_1 : decode prog_4_method_5_code 1 = .ok (.getfield 25, 3) := by decide +kernel
theorem d_Host_operations_4 : decode prog_4_method_5_code 4 = .ok (.ireturn, 1) := by decide +kernel
theorem d_Host_entryAt_0 : decode prog_4_method_6_code 0 = .ok (.aload_n 0, 1) := by decide +kernel
theorem d_Host_entryAt_1 : decode prog_4_method_6_code 1 = .ok (.getfield 22, 3) := by decide +kernel
theorem d_Host_entryAt_4 : decode prog_4_method_6_code 4 = .ok (.aload_n 0, 1) := by decide +kernel
theorem d_Host_entryAt_5 : decode prog_4_method_6_code 5 = .ok (.getfield 25, 3) := by decide +kernel
theorem d_Host_entryAt_8 : decode prog_4_method_6_code 8 = .ok (.iconst 1, 1) := by decide +kernel
theorem d_Host_entryAt_9 : decode prog_4_method_6_code 9 = .ok (.isub, 1) := by decide +kernel
theorem d_Host_entryAt_10 : decode prog_4_method_6_code 10 = .ok (.iload_n 1, 1) := by decide +kernel
theorem d_Host_entryAt_11 : decode prog_4_method_6_code 11 = .ok (.isub, 1) := by decide +kernel
theorem d_Host_entryAt_12 : decode prog_4_method_6_code 12 = .ok (.bipush 16, 2) := by decide +kernel
theorem d_Host_entryAt_14 : decode prog_4_method_6_code 14 = .ok (.irem, 1) := by decide +kernel
theorem d_Host_entryAt_15 : decode prog_4_method_6_code 15 = .ok (.iaload, 1) := by decide +kernel
theorem d_Host_entryAt_16 : decode prog_4_method_6_code 16 = .ok (.ireturn, 1) := by decide +kernel
theorem d_Host_leftToFail_0 : decode prog_4_method_7_code 0 = .ok (.aload_n 0, 1) := by decide +kernel
theorem d_Host_leftToFail_1 : decode prog_4_method_7_code 1 = .ok (.getfield 29, 3) := by decide +kernel
theorem d_Host_leftToFail_4 : decode prog_4_method_7_code 4 = .ok (.ireturn, 1) := by decide +kernel
end
section
/-! decode rows, by program -/
theorem d_K_init_0 : decode prog_1_method_1_code 0 = .ok (.aload_n 0, 1) := by decide +kernel
theorem d_K_init_1 : decode prog_1_method_1_code 1 = .ok (.invokespecial 1, 3) := by decide +kernel
theorem d_K_init_4 : decode prog_1_method_1_code 4 = .ok (.aload_n 0, 1) := by decide +kernel
theorem d_K_init_5 : decode prog_1_method_1_code 5 = .ok (.new 7, 3) := by decide +kernel
theorem d_K_init_8 : decode prog_1_method_1_code 8 = .ok (.dup, 1) := by decide +kernel
theorem d_K_init_9 : decode prog_1_method_1_code 9 = .ok (.invokespecial 9, 3) := by decide +kernel
theorem d_K_init_12 : decode prog_1_method_1_code 12 = .ok (.putfield 10, 3) := by decide +kernel
theorem d_K_init_15 : decode prog_1_method_1_code 15 = .ok (.aload_n 0, 1) := by decide +kernel
theorem d_K_init_16 : decode prog_1_method_1_code 16 = .ok (.new 16, 3) := by decide +kernel
theorem d_K_init_19 : decode prog_1_method_1_code 19 = .ok (.dup, 1) := by decide +kernel
theorem d_K_init_20 : decode prog_1_method_1_code 20 = .ok (.aload_n 0, 1) := by decide +kernel
theorem d_K_init_21 : decode prog_1_method_1_code 21 = .ok (.getfield 10, 3) := by decide +kernel
theorem d_K_init_24 : decode prog_1_method_1_code 24 = .ok (.invokespecial 18, 3) := by decide +kernel
theorem d_K_init_27 : decode prog_1_method_1_code 27 = .ok (.putfield 21, 3) := by decide +kernel
theorem d_K_init_30 : decode prog_1_method_1_code 30 = .ok (.aload_n 0, 1) := by decide +kernel
theorem d_K_init_31 : decode prog_1_method_1_code 31 = .ok (.bipush 8, 2) := by decide +kernel
theorem d_K_init_33 : decode prog_1_method_1_code 33 = .ok (.newarray .int, 2) := by decide +kernel
theorem d_K_init_35 : decode prog_1_method_1_code 35 = .ok (.putfield 25, 3) := by decide +kernel
theorem d_K_init_38 : decode prog_1_method_1_code 38 = .ok (.aload_n 0, 1) := by decide +kernel
theorem d_K_init_39 : decode prog_1_method_1_code 39 = .ok (.getfield 25, 3) := by decide +kernel
theorem d_K_init_42 : decode prog_1_method_1_code 42 = .ok (.iconst 2, 1) := by decide +kernel
theorem d_K_init_43 : decode prog_1_method_1_code 43 = .ok (.invokestatic 29, 3) := by decide +kernel
theorem d_K_init_46 : decode prog_1_method_1_code 46 = .ok (.aload_n 0, 1) := by decide +kernel
theorem d_K_init_47 : decode prog_1_method_1_code 47 = .ok (.bipush 16, 2) := by decide +kernel
theorem d_K_init_49 : decode prog_1_method_1_code 49 = .ok (.anewarray 35, 3) := by decide +kernel
theorem d_K_init_52 : decode prog_1_method_1_code 52 = .ok (.putfield 37, 3) := by decide +kernel
theorem d_K_init_55 : decode prog_1_method_1_code 55 = .ok (.iconst 0, 1) := by decide +kernel
theorem d_K_init_56 : decode prog_1_method_1_code 56 = .ok (.istore_n 1, 1) := by decide +kernel
theorem d_K_init_57 : decode prog_1_method_1_code 57 = .ok (.iload_n 1, 1) := by decide +kernel
theorem d_K_init_58 : decode prog_1_method_1_code 58 = .ok (.bipush 16, 2) := by decide +kernel
theorem d_K_init_60 : decode prog_1_method_1_code 60 = .ok (.if_icmp .ge 22, 3) := by decide +kernel
theorem d_K_init_63 : decode prog_1_method_1_code 63 = .ok (.aload_n 0, 1) := by decide +kernel
theorem d_K_init_64 : decode prog_1_method_1_code 64 = .ok (.getfield 37, 3) := by decide +kernel
theorem d_K_init_67 : decode prog_1_method_1_code 67 = .ok (.iload_n 1, 1) := by decide +kernel
theorem d_K_init_68 : decode prog_1_method_1_code 68 = .ok (.new 35, 3) := by decide +kernel
theorem d_K_init_71 : decode prog_1_method_1_code 71 = .ok (.dup, 1) := by decide +kernel
theorem d_K_init_72 : decode prog_1_method_1_code 72 = .ok (.invokespecial 41, 3) := by decide +kernel
theorem d_K_init_75 : decode prog_1_method_1_code 75 = .ok (.aastore, 1) := by decide +kernel
theorem d_K_init_76 : decode prog_1_method_1_code 76 = .ok (.iinc 1 1, 3) := by decide +kernel
theorem d_K_init_79 : decode prog_1_method_1_code 79 = .ok (.goto (-22), 3) := by decide +kernel
theorem d_K_init_82 : decode prog_1_method_1_code 82 = .ok (.aload_n 0, 1) := by decide +kernel
theorem d_K_init_83 : decode prog_1_method_1_code 83 = .ok (.bipush 7, 2) := by decide +kernel
theorem d_K_init_85 : decode prog_1_method_1_code 85 = .ok (.anewarray 42, 3) := by decide +kernel
theorem d_K_init_88 : decode prog_1_method_1_code 88 = .ok (.putfield 44, 3) := by decide +kernel
theorem d_K_init_91 : decode prog_1_method_1_code 91 = .ok (.iconst 0, 1) := by decide +kernel
theorem d_K_init_92 : decode prog_1_method_1_code 92 = .ok (.istore_n 1, 1) := by decide +kernel
theorem d_K_init_93 : decode prog_1_method_1_code 93 = .ok (.iload_n 1, 1) := by decide +kernel
theorem d_K_init_94 : decode prog_1_method_1_code 94 = .ok (.bipush 6, 2) := by decide +kernel
theorem d_K_init_96 : decode prog_1_method_1_code 96 = .ok (.if_icmp .gt 22, 3) := by decide +kernel
theorem d_K_init_99 : decode prog_1_method_1_code 99 = .ok (.aload_n 0, 1) := by decide +kernel
theorem d_K_init_100 : decode prog_1_method_1_code 100 = .ok (.getfield 44, 3) := by decide +kernel
theorem d_K_init_103 : decode prog_1_method_1_code 103 = .ok (.iload_n 1, 1) := by decide +kernel
theorem d_K_init_104 : decode prog_1_method_1_code 104 = .ok (.new 42, 3) := by decide +kernel
theorem d_K_init_107 : decode prog_1_method_1_code 107 = .ok (.dup, 1) := by decide +kernel
theorem d_K_init_108 : decode prog_1_method_1_code 108 = .ok (.invokespecial 48, 3) := by decide +kernel
theorem d_K_init_111 : decode prog_1_method_1_code 111 = .ok (.aastore, 1) := by decide +kernel
theorem d_K_init_112 : decode prog_1_method_1_code 112 = .ok (.iinc 1 1, 3) := by decide +kernel
theorem d_K_init_115 : decode prog_1_method_1_code 115 = .ok (.goto (-22), 3) := by decide +kernel
theorem d_K_init_118 : decode prog_1_method_1_code 118 = .ok (.aload_n 0, 1) := by decide +kernel
theorem d_K_init_119 : decode prog_1_method_1_code 119 = .ok (.getfield 44, 3) := by decide +kernel
theorem d_K_init_122 : decode prog_1_method_1_code 122 = .ok (.iconst 1, 1) := by decide +kernel
theorem d_K_init_123 : decode prog_1_method_1_code 123 = .ok (.aaload, 1) := by decide +kernel
theorem d_K_init_124 : decode prog_1_method_1_code 124 = .ok (.iconst (-1), 1) := by decide +kernel
theorem d_K_init_125 : decode prog_1_method_1_code 125 = .ok (.invokevirtual 49, 3) := by decide +kernel
theorem d_K_init_128 : decode prog_1_method_1_code 128 = .ok (.return_, 1) := by decide +kernel
theorem d_K_put_0 : decode prog_1_method_2_code 0 = .ok (.iload_n 1, 1) := by decide +kernel
theorem d_K_put_1 : decode prog_1_method_2_code 1 = .ok (.bipush 8, 2) := by decide +kernel
theorem d_K_put_3 : decode prog_1_method_2_code 3 = .ok (.invokestatic 53, 3) := by decide +kernel
theorem d_K_put_6 : decode prog_1_method_2_code 6 = .ok (.ifCond .eq 12, 3) := by decide +kernel
theorem d_K_put_9 : decode prog_1_method_2_code 9 = .ok (.iload_n 2, 1) := by decide +kernel
theorem d_K_put_10 : decode prog_1_method_2_code 10 = .ok (.bipush 33, 2) := by decide +kernel
theorem d_K_put_12 : decode prog_1_method_2_code 12 = .ok (.invokestatic 53, 3) := by decide +kernel
theorem d_K_put_15 : decode prog_1_method_2_code 15 = .ok (.ifCond .ne 5, 3) := by decide +kernel
theorem d_K_put_18 : decode prog_1_method_2_code 18 = .ok (.iconst (-1), 1) := by decide +kernel
theorem d_K_put_19 : decode prog_1_method_2_code 19 = .ok (.ireturn, 1) := by decide +kernel
theorem d_K_put_20 : decode prog_1_method_2_code 20 = .ok (.aload_n 0, 1) := by decide +kernel
theorem d_K_put_21 : decode prog_1_method_2_code 21 = .ok (.iload_n 1, 1) := by decide +kernel
theorem d_K_put_22 : decode prog_1_method_2_code 22 = .ok (.invokevirtual 57, 3) := by decide +kernel
theorem d_K_put_25 : decode prog_1_method_2_code 25 = .ok (.ifCond .ne 14, 3) := by decide +kernel
theorem d_K_put_28 : decode prog_1_method_2_code 28 = .ok (.aload_n 0, 1) := by decide +kernel
theorem d_K_put_29 : decode prog_1_method_2_code 29 = .ok (.getfield 21, 3) := by decide +kernel
theorem d_K_put_32 : decode prog_1_method_2_code 32 = .ok (.iload_n 1, 1) := by decide +kernel
theorem d_K_put_33 : decode prog_1_method_2_code 33 = .ok (.invokevirtual 61, 3) := by decide +kernel
theorem d_K_put_36 : decode prog_1_method_2_code 36 = .ok (.ifCond .eq 6, 3) := by decide +kernel
theorem d_K_put_39 : decode prog_1_method_2_code 39 = .ok (.bipush (-9), 2) := by decide +kernel
theorem d_K_put_41 : decode prog_1_method_2_code 41 = .ok (.ireturn, 1) := by decide +kernel
theorem d_K_put_42 : decode prog_1_method_2_code 42 = .ok (.aload_n 0, 1) := by decide +kernel
theorem d_K_put_43 : decode prog_1_method_2_code 43 = .ok (.getfield 10, 3) := by decide +kernel
theorem d_K_put_46 : decode prog_1_method_2_code 46 = .ok (.iload_n 1, 1) := by decide +kernel
theorem d_K_put_47 : decode prog_1_method_2_code 47 = .ok (.iload_n 2, 1) := by decide +kernel
theorem d_K_put_48 : decode prog_1_method_2_code 48 = .ok (.iload_n 3, 1) := by decide +kernel
theorem d_K_put_49 : decode prog_1_method_2_code 49 = .ok (.invokevirtual 64, 3) := by decide +kernel
theorem d_K_put_52 : decode prog_1_method_2_code 52 = .ok (.aload_n 0, 1) := by decide +kernel
theorem d_K_put_53 : decode prog_1_method_2_code 53 = .ok (.getfield 21, 3) := by decide +kernel
theorem d_K_put_56 : decode prog_1_method_2_code 56 = .ok (.iload_n 1, 1) := by decide +kernel
theorem d_K_put_57 : decode prog_1_method_2_code 57 = .ok (.iload_n 2, 1) := by decide +kernel
theorem d_K_put_58 : decode prog_1_method_2_code 58 = .ok (.invokevirtual 68, 3) := by decide +kernel
theorem d_K_put_61 : decode prog_1_method_2_code 61 = .ok (.iconst 0, 1) := by decide +kernel
theorem d_K_put_62 : decode prog_1_method_2_code 62 = .ok (.ireturn, 1) := by decide +kernel
theorem d_K_isBelow_0 : decode prog_1_method_22_code 0 = .ok (.iload_n 0, 1) := by decide +kernel
theorem d_K_isBelow_1 : decode prog_1_method_22_code 1 = .ok (.ifCond .lt 12, 3) := by decide +kernel
theorem d_K_isBelow_4 : decode prog_1_method_22_code 4 = .ok (.iload_n 0, 1) := by decide +kernel
theorem d_K_isBelow_5 : decode prog_1_method_22_code 5 = .ok (.iload_n 1, 1) := by decide +kernel
theorem d_K_isBelow_6 : decode prog_1_method_22_code 6 = .ok (.if_icmp .ge 7, 3) := by decide +kernel
theorem d_K_isBelow_9 : decode prog_1_method_22_code 9 = .ok (.iconst 1, 1) := by decide +kernel
theorem d_K_isBelow_10 : decode prog_1_method_22_code 10 = .ok (.goto 4, 3) := by decide +kernel
theorem d_K_isBelow_13 : decode prog_1_method_22_code 13 = .ok (.iconst 0, 1) := by decide +kernel
theorem d_K_isBelow_14 : decode prog_1_method_22_code 14 = .ok (.ireturn, 1) := by decide +kernel
theorem d_K_isOpen_0 : decode prog_1_method_26_code 0 = .ok (.iconst 0, 1) := by decide +kernel
theorem d_K_isOpen_1 : decode prog_1_method_26_code 1 = .ok (.istore_n 2, 1) := by decide +kernel
theorem d_K_isOpen_2 : decode prog_1_method_26_code 2 = .ok (.iload_n 2, 1) := by decide +kernel
theorem d_K_isOpen_3 : decode prog_1_method_26_code 3 = .ok (.bipush 16, 2) := by decide +kernel
theorem d_K_isOpen_5 : decode prog_1_method_26_code 5 = .ok (.if_icmp .ge 24, 3) := by decide +kernel
theorem d_K_isOpen_8 : decode prog_1_method_26_code 8 = .ok (.aload_n 0, 1) := by decide +kernel
theorem d_K_isOpen_9 : decode prog_1_method_26_code 9 = .ok (.getfield 37, 3) := by decide +kernel
theorem d_K_isOpen_12 : decode prog_1_method_26_code 12 = .ok (.iload_n 2, 1) := by decide +kernel
theorem d_K_isOpen_13 : decode prog_1_method_26_code 13 = .ok (.aaload, 1) := by decide +kernel
theorem d_K_isOpen_14 : decode prog_1_method_26_code 14 = .ok (.iload_n 1, 1) := by decide +kernel
theorem d_K_isOpen_15 : decode prog_1_method_26_code 15 = .ok (.invokevirtual 227, 3) := by decide +kernel
theorem d_K_isOpen_18 : decode prog_1_method_26_code 18 = .ok (.ifCond .eq 5, 3) := by decide +kernel
theorem d_K_isOpen_21 : decode prog_1_method_26_code 21 = .ok (.iconst 1, 1) := by decide +kernel
theorem d_K_isOpen_22 : decode prog_1_method_26_code 22 = .ok (.ireturn, 1) := by decide +kernel
theorem d_K_isOpen_23 : decode prog_1_method_26_code 23 = .ok (.iinc 2 1, 3) := by decide +kernel
theorem d_K_isOpen_26 : decode prog_1_method_26_code 26 = .ok (.goto (-24), 3) := by decide +kernel
theorem d_K_isOpen_29 : decode prog_1_method_26_code 29 = .ok (.iconst 0, 1) := by decide +kernel
theorem d_K_isOpen_30 : decode prog_1_method_26_code 30 = .ok (.ireturn, 1) := by decide +kernel
theorem d_K_policy_0 : decode prog_1_method_3_code 0 = .ok (.iload_n 1, 1) := by decide +kernel
theorem d_K_policy_1 : decode prog_1_method_3_code 1 = .ok (.bipush 8, 2) := by decide +kernel
theorem d_K_policy_3 : decode prog_1_method_3_code 3 = .ok (.invokestatic 53, 3) := by decide +kernel
theorem d_K_policy_6 : decode prog_1_method_3_code 6 = .ok (.ifCond .eq 11, 3) := by decide +kernel
theorem d_K_policy_9 : decode prog_1_method_3_code 9 = .ok (.iload_n 2, 1) := by decide +kernel
theorem d_K_policy_10 : decode prog_1_method_3_code 10 = .ok (.iconst 3, 1) := by decide +kernel
theorem d_K_policy_11 : decode prog_1_method_3_code 11 = .ok (.invokestatic 53, 3) := by decide +kernel
theorem d_K_policy_14 : decode prog_1_method_3_code 14 = .ok (.ifCond .ne 5, 3) := by decide +kernel
theorem d_K_policy_17 : decode prog_1_method_3_code 17 = .ok (.iconst (-1), 1) := by decide +kernel
theorem d_K_policy_18 : decode prog_1_method_3_code 18 = .ok (.ireturn, 1) := by decide +kernel
theorem d_K_policy_19 : decode prog_1_method_3_code 19 = .ok (.aload_n 0, 1) := by decide +kernel
theorem d_K_policy_20 : decode prog_1_method_3_code 20 = .ok (.getfield 25, 3) := by decide +kernel
theorem d_K_policy_23 : decode prog_1_method_3_code 23 = .ok (.iload_n 1, 1) := by decide +kernel
theorem d_K_policy_24 : decode prog_1_method_3_code 24 = .ok (.iload_n 2, 1) := by decide +kernel
theorem d_K_policy_25 : decode prog_1_method_3_code 25 = .ok (.iastore, 1) := by decide +kernel
theorem d_K_policy_26 : decode prog_1_method_3_code 26 = .ok (.iconst 0, 1) := by decide +kernel
theorem d_K_policy_27 : decode prog_1_method_3_code 27 = .ok (.ireturn, 1) := by decide +kernel
theorem d_K_failing_0 : decode prog_1_method_4_code 0 = .ok (.iload_n 1, 1) := by decide +kernel
theorem d_K_failing_1 : decode prog_1_method_4_code 1 = .ok (.bipush 10, 2) := by decide +kernel
theorem d_K_failing_3 : decode prog_1_method_4_code 3 = .ok (.invokestatic 53, 3) := by decide +kernel
theorem d_K_failing_6 : decode prog_1_method_4_code 6 = .ok (.ifCond .ne 5, 3) := by decide +kernel
theorem d_K_failing_9 : decode prog_1_method_4_code 9 = .ok (.iconst (-1), 1) := by decide +kernel
theorem d_K_failing_10 : decode prog_1_method_4_code 10 = .ok (.ireturn, 1) := by decide +kernel
theorem d_K_failing_11 : decode prog_1_method_4_code 11 = .ok (.aload_n 0, 1) := by decide +kernel
theorem d_K_failing_12 : decode prog_1_method_4_code 12 = .ok (.getfield 10, 3) := by decide +kernel
theorem d_K_failing_15 : decode prog_1_method_4_code 15 = .ok (.iload_n 1, 1) := by decide +kernel
theorem d_K_failing_16 : decode prog_1_method_4_code 16 = .ok (.invokevirtual 72, 3) := by decide +kernel
theorem d_K_failing_19 : decode prog_1_method_4_code 19 = .ok (.iconst 0, 1) := by decide +kernel
theorem d_K_failing_20 : decode prog_1_method_4_code 20 = .ok (.ireturn, 1) := by decide +kernel
theorem d_K_open_0 : decode prog_1_method_5_code 0 = .ok (.aload_n 0, 1) := by decide +kernel
theorem d_K_open_1 : decode prog_1_method_5_code 1 = .ok (.iload_n 1, 1) := by decide +kernel
theorem d_K_open_2 : decode prog_1_method_5_code 2 = .ok (.invokevirtual 75, 3) := by decide +kernel
theorem d_K_open_5 : decode prog_1_method_5_code 5 = .ok (.ifCond .eq 21, 3) := by decide +kernel
theorem d_K_open_8 : decode prog_1_method_5_code 8 = .ok (.iload_n 2, 1) := by decide +kernel
theorem d_K_open_9 : decode prog_1_method_5_code 9 = .ok (.bipush 8, 2) := by decide +kernel
theorem d_K_open_11 : decode prog_1_method_5_code 11 = .ok (.invokestatic 53, 3) := by decide +kernel
theorem d_K_open_14 : decode prog_1_method_5_code 14 = .ok (.ifCond .eq 12, 3) := by decide +kernel
theorem d_K_open_17 : decode prog_1_method_5_code 17 = .ok (.iload_n 3, 1) := by decide +kernel
theorem d_K_open_18 : decode prog_1_method_5_code 18 = .ok (.bipush 32, 2) := by decide +kernel
theorem d_K_open_20 : decode prog_1_method_5_code 20 = .ok (.invokestatic 53, 3) := by decide +kernel
theorem d_K_open_23 : decode prog_1_method_5_code 23 = .ok (.ifCond .ne 5, 3) := by decide +kernel
theorem d_K_open_26 : decode prog_1_method_5_code 26 = .ok (.iconst (-1), 1) := by decide +kernel
theorem d_K_open_27 : decode prog_1_method_5_code 27 = .ok (.ireturn, 1) := by decide +kernel
theorem d_K_open_28 : decode prog_1_method_5_code 28 = .ok (.aload_n 0, 1) := by decide +kernel
theorem d_K_open_29 : decode prog_1_method_5_code 29 = .ok (.getfield 10, 3) := by decide +kernel
theorem d_K_open_32 : decode prog_1_method_5_code 32 = .ok (.iload_n 2, 1) := by decide +kernel
theorem d_K_open_33 : decode prog_1_method_5_code 33 = .ok (.invokevirtual 78, 3) := by decide +kernel
theorem d_K_open_36 : decode prog_1_method_5_code 36 = .ok (.ifCond .ne 14, 3) := by decide +kernel
theorem d_K_open_39 : decode prog_1_method_5_code 39 = .ok (.iload_n 3, 1) := by decide +kernel
theorem d_K_open_40 : decode prog_1_method_5_code 40 = .ok (.bipush 8, 2) := by decide +kernel
theorem d_K_open_42 : decode prog_1_method_5_code 42 = .ok (.iand, 1) := by decide +kernel
theorem d_K_open_43 : decode prog_1_method_5_code 43 = .ok (.ifCond .ne 7, 3) := by decide +kernel
theorem d_K_open_46 : decode prog_1_method_5_code 46 = .ok (.iconst 1, 1) := by decide +kernel
theorem d_K_open_47 : decode prog_1_method_5_code 47 = .ok (.goto 4, 3) := by decide +kernel
theorem d_K_open_50 : decode prog_1_method_5_code 50 = .ok (.iconst 0, 1) := by decide +kernel
theorem d_K_open_51 : decode prog_1_method_5_code 51 = .ok (.istore 4, 2) := by decide +kernel
theorem d_K_open_53 : decode prog_1_method_5_code 53 = .ok (.aload_n 0, 1) := by decide +kernel
theorem d_K_open_54 : decode prog_1_method_5_code 54 = .ok (.getfield 25, 3) := by decide +kernel
theorem d_K_open_57 : decode prog_1_method_5_code 57 = .ok (.iload_n 2, 1) := by decide +kernel
theorem d_K_open_58 : decode prog_1_method_5_code 58 = .ok (.iaload, 1) := by decide +kernel
theorem d_K_open_59 : decode prog_1_method_5_code 59 = .ok (.ifCond .eq 8, 3) := by decide +kernel
theorem d_K_open_62 : decode prog_1_method_5_code 62 = .ok (.iload 4, 2) := by decide +kernel
theorem d_K_open_64 : decode prog_1_method_5_code 64 = .ok (.ifCond .eq 6, 3) := by decide +kernel
theorem d_K_open_67 : decode prog_1_method_5_code 67 = .ok (.bipush (-4), 2) := by decide +kernel
theorem d_K_open_69 : decode prog_1_method_5_code 69 = .ok (.ireturn, 1) := by decide +kernel
theorem d_K_open_70 : decode prog_1_method_5_code 70 = .ok (.aload_n 0, 1) := by decide +kernel
theorem d_K_open_71 : decode prog_1_method_5_code 71 = .ok (.getfield 25, 3) := by decide +kernel
theorem d_K_open_74 : decode prog_1_method_5_code 74 = .ok (.iload_n 2, 1) := by decide +kernel
theorem d_K_open_75 : decode prog_1_method_5_code 75 = .ok (.iaload, 1) := by decide +kernel
theorem d_K_open_76 : decode prog_1_method_5_code 76 = .ok (.iconst 1, 1) := by decide +kernel
theorem d_K_open_77 : decode prog_1_method_5_code 77 = .ok (.if_icmp .ne 13, 3) := by decide +kernel
theorem d_K_open_80 : decode prog_1_method_5_code 80 = .ok (.iload_n 3, 1) := by decide +kernel
theorem d_K_open_81 : decode prog_1_method_5_code 81 = .ok (.bipush (-2), 2) := by decide +kernel
theorem d_K_open_83 : decode prog_1_method_5_code 83 = .ok (.iand, 1) := by decide +kernel
theorem d_K_open_84 : decode prog_1_method_5_code 84 = .ok (.ifCond .eq 6, 3) := by decide +kernel
theorem d_K_open_87 : decode prog_1_method_5_code 87 = .ok (.bipush (-5), 2) := by decide +kernel
theorem d_K_open_89 : decode prog_1_method_5_code 89 = .ok (.ireturn, 1) := by decide +kernel
theorem d_K_open_90 : decode prog_1_method_5_code 90 = .ok (.aload_n 0, 1) := by decide +kernel
theorem d_K_open_91 : decode prog_1_method_5_code 91 = .ok (.getfield 44, 3) := by decide +kernel
theorem d_K_open_94 : decode prog_1_method_5_code 94 = .ok (.iload_n 1, 1) := by decide +kernel
theorem d_K_open_95 : decode prog_1_method_5_code 95 = .ok (.aaload, 1) := by decide +kernel
theorem d_K_open_96 : decode prog_1_method_5_code 96 = .ok (.iconst 0, 1) := by decide +kernel
theorem d_K_open_97 : decode prog_1_method_5_code 97 = .ok (.invokevirtual 81, 3) := by decide +kernel
theorem d_K_open_100 : decode prog_1_method_5_code 100 = .ok (.istore 5, 2) := by decide +kernel
theorem d_K_open_102 : decode prog_1_method_5_code 102 = .ok (.aload_n 0, 1) := by decide +kernel
theorem d_K_open_103 : decode prog_1_method_5_code 103 = .ok (.iconst 0, 1) := by decide +kernel
theorem d_K_open_104 : decode prog_1_method_5_code 104 = .ok (.invokevirtual 85, 3) := by decide +kernel
theorem d_K_open_107 : decode prog_1_method_5_code 107 = .ok (.istore 6, 2) := by decide +kernel
theorem d_K_open_109 : decode prog_1_method_5_code 109 = .ok (.iload 5, 2) := by decide +kernel
theorem d_K_open_111 : decode prog_1_method_5_code 111 = .ok (.iconst (-1), 1) := by decide +kernel
theorem d_K_open_112 : decode prog_1_method_5_code 112 = .ok (.if_icmp .eq 9, 3) := by decide +kernel
theorem d_K_open_115 : decode prog_1_method_5_code 115 = .ok (.iload 6, 2) := by decide +kernel
theorem d_K_open_117 : decode prog_1_method_5_code 117 = .ok (.iconst (-1), 1) := by decide +kernel
theorem d_K_open_118 : decode prog_1_method_5_code 118 = .ok (.if_icmp .ne 6, 3) := by decide +kernel
theorem d_K_open_121 : decode prog_1_method_5_code 121 = .ok (.bipush (-2), 2) := by decide +kernel
theorem d_K_open_123 : decode prog_1_method_5_code 123 = .ok (.ireturn, 1) := by decide +kernel
theorem d_K_open_124 : decode prog_1_method_5_code 124 = .ok (.aload_n 0, 1) := by decide +kernel
theorem d_K_open_125 : decode prog_1_method_5_code 125 = .ok (.iload_n 2, 1) := by decide +kernel
theorem d_K_open_126 : decode prog_1_method_5_code 126 = .ok (.iload_n 3, 1) := by decide +kernel
theorem d_K_open_127 : decode prog_1_method_5_code 127 = .ok (.invokevirtual 88, 3) := by decide +kernel
theorem d_K_open_130 : decode prog_1_method_5_code 130 = .ok (.ifCond .ne 6, 3) := by decide +kernel
theorem d_K_open_133 : decode prog_1_method_5_code 133 = .ok (.bipush (-8), 2) := by decide +kernel
theorem d_K_open_135 : decode prog_1_method_5_code 135 = .ok (.ireturn, 1) := by decide +kernel
theorem d_K_open_136 : decode prog_1_method_5_code 136 = .ok (.aload_n 0, 1) := by decide +kernel
theorem d_K_open_137 : decode prog_1_method_5_code 137 = .ok (.getfield 37, 3) := by decide +kernel
theorem d_K_open_140 : decode prog_1_method_5_code 140 = .ok (.iload 6, 2) := by decide +kernel
theorem d_K_open_142 : decode prog_1_method_5_code 142 = .ok (.aaload, 1) := by decide +kernel
theorem d_K_open_143 : decode prog_1_method_5_code 143 = .ok (.iload_n 2, 1) := by decide +kernel
theorem d_K_open_144 : decode prog_1_method_5_code 144 = .ok (.iload_n 3, 1) := by decide +kernel
theorem d_K_open_145 : decode prog_1_method_5_code 145 = .ok (.invokevirtual 91, 3) := by decide +kernel
theorem d_K_open_148 : decode prog_1_method_5_code 148 = .ok (.aload_n 0, 1) := by decide +kernel
theorem d_K_open_149 : decode prog_1_method_5_code 149 = .ok (.getfield 44, 3) := by decide +kernel
theorem d_K_open_152 : decode prog_1_method_5_code 152 = .ok (.iload_n 1, 1) := by decide +kernel
theorem d_K_open_153 : decode prog_1_method_5_code 153 = .ok (.aaload, 1) := by decide +kernel
theorem d_K_open_154 : decode prog_1_method_5_code 154 = .ok (.iload 5, 2) := by decide +kernel
theorem d_K_open_156 : decode prog_1_method_5_code 156 = .ok (.aload_n 0, 1) := by decide +kernel
theorem d_K_open_157 : decode prog_1_method_5_code 157 = .ok (.getfield 37, 3) := by decide +kernel
theorem d_K_open_160 : decode prog_1_method_5_code 160 = .ok (.iload 6, 2) := by decide +kernel
theorem d_K_open_162 : decode prog_1_method_5_code 162 = .ok (.aaload, 1) := by decide +kernel
theorem d_K_open_163 : decode prog_1_method_5_code 163 = .ok (.invokevirtual 94, 3) := by decide +kernel
theorem d_K_open_166 : decode prog_1_method_5_code 166 = .ok (.iload 5, 2) := by decide +kernel
theorem d_K_open_168 : decode prog_1_method_5_code 168 = .ok (.ireturn, 1) := by decide +kernel
theorem d_K_isAlive_0 : decode prog_1_method_23_code 0 = .ok (.iload_n 1, 1) := by decide +kernel
theorem d_K_isAlive_1 : decode prog_1_method_23_code 1 = .ok (.bipush 7, 2) := by decide +kernel
theorem d_K_isAlive_3 : decode prog_1_method_23_code 3 = .ok (.invokestatic 53, 3) := by decide +kernel
theorem d_K_isAlive_6 : decode prog_1_method_23_code 6 = .ok (.ifCond .eq 20, 3) := by decide +kernel
theorem d_K_isAlive_9 : decode prog_1_method_23_code 9 = .ok (.aload_n 0, 1) := by decide +kernel
theorem d_K_isAlive_10 : decode prog_1_method_23_code 10 = .ok (.getfield 44, 3) := by decide +kernel
theorem d_K_isAlive_13 : decode prog_1_method_23_code 13 = .ok (.iload_n 1, 1) := by decide +kernel
theorem d_K_isAlive_14 : decode prog_1_method_23_code 14 = .ok (.aaload, 1) := by decide +kernel
theorem d_K_isAlive_15 : decode prog_1_method_23_code 15 = .ok (.getfield 173, 3) := by decide +kernel
theorem d_K_isAlive_18 : decode prog_1_method_23_code 18 = .ok (.iconst 1, 1) := by decide +kernel
theorem d_K_isAlive_19 : decode prog_1_method_23_code 19 = .ok (.if_icmp .ne 7, 3) := by decide +kernel
theorem d_K_isAlive_22 : decode prog_1_method_23_code 22 = .ok (.iconst 1, 1) := by decide +kernel
theorem d_K_isAlive_23 : decode prog_1_method_23_code 23 = .ok (.goto 4, 3) := by decide +kernel
theorem d_K_isAlive_26 : decode prog_1_method_23_code 26 = .ok (.iconst 0, 1) := by decide +kernel
theorem d_K_isAlive_27 : decode prog_1_method_23_code 27 = .ok (.ireturn, 1) := by decide +kernel
theorem d_K_unusedFrom_0 : decode prog_1_method_27_code 0 = .ok (.iload_n 1, 1) := by decide +kernel
theorem d_K_unusedFrom_1 : decode prog_1_method_27_code 1 = .ok (.istore_n 2, 1) := by decide +kernel
theorem d_K_unusedFrom_2 : decode prog_1_method_27_code 2 = .ok (.iload_n 2, 1) := by decide +kernel
theorem d_K_unusedFrom_3 : decode prog_1_method_27_code 3 = .ok (.bipush 16, 2) := by decide +kernel
theorem d_K_unusedFrom_5 : decode prog_1_method_27_code 5 = .ok (.if_icmp .ge 23, 3) := by decide +kernel
theorem d_K_unusedFrom_8 : decode prog_1_method_27_code 8 = .ok (.aload_n 0, 1) := by decide +kernel
theorem d_K_unusedFrom_9 : decode prog_1_method_27_code 9 = .ok (.getfield 37, 3) := by decide +kernel
theorem d_K_unusedFrom_12 : decode prog_1_method_27_code 12 = .ok (.iload_n 2, 1) := by decide +kernel
theorem d_K_unusedFrom_13 : decode prog_1_method_27_code 13 = .ok (.aaload, 1) := by decide +kernel
theorem d_K_unusedFrom_14 : decode prog_1_method_27_code 14 = .ok (.getfield 230, 3) := by decide +kernel
theorem d_K_unusedFrom_17 : decode prog_1_method_27_code 17 = .ok (.ifCond .ne 5, 3) := by decide +kernel
theorem d_K_unusedFrom_20 : decode prog_1_method_27_code 20 = .ok (.iload_n 2, 1) := by decide +kernel
theorem d_K_unusedFrom_21 : decode prog_1_method_27_code 21 = .ok (.ireturn, 1) := by decide +kernel
theorem d_K_unusedFrom_22 : decode prog_1_method_27_code 22 = .ok (.iinc 2 1, 3) := by decide +kernel
theorem d_K_unusedFrom_25 : decode prog_1_method_27_code 25 = .ok (.goto (-23), 3) := by decide +kernel
theorem d_K_unusedFrom_28 : decode prog_1_method_27_code 28 = .ok (.iconst (-1), 1) := by decide +kernel
theorem d_K_unusedFrom_29 : decode prog_1_method_27_code 29 = .ok (.ireturn, 1) := by decide +kernel
theorem d_K_readyFile_0 : decode prog_1_method_31_code 0 = .ok (.aload_n 0, 1) := by decide +kernel
theorem d_K_readyFile_1 : decode prog_1_method_31_code 1 = .ok (.getfield 10, 3) := by decide +kernel
theorem d_K_readyFile_4 : decode prog_1_method_31_code 4 = .ok (.iload_n 1, 1) := by decide +kernel
theorem d_K_readyFile_5 : decode prog_1_method_31_code 5 = .ok (.invokevirtual 78, 3) := by decide +kernel
theorem d_K_readyFile_8 : decode prog_1_method_31_code 8 = .ok (.ifCond .ne 28, 3) := by decide +kernel
theorem d_K_readyFile_11 : decode prog_1_method_31_code 11 = .ok (.aload_n 0, 1) := by decide +kernel
theorem d_K_readyFile_12 : decode prog_1_method_31_code 12 = .ok (.getfield 10, 3) := by decide +kernel
theorem d_K_readyFile_15 : decode prog_1_method_31_code 15 = .ok (.iload_n 1, 1) := by decide +kernel
theorem d_K_readyFile_16 : decode prog_1_method_31_code 16 = .ok (.invokevirtual 233, 3) := by decide +kernel
theorem d_K_readyFile_19 : decode prog_1_method_31_code 19 = .ok (.ifCond .ne 5, 3) := by decide +kernel
theorem d_K_readyFile_22 : decode prog_1_method_31_code 22 = .ok (.iconst 0, 1) := by decide +kernel
theorem d_K_readyFile_23 : decode prog_1_method_31_code 23 = .ok (.ireturn, 1) := by decide +kernel
theorem d_K_readyFile_24 : decode prog_1_method_31_code 24 = .ok (.aload_n 0, 1) := by decide +kernel
theorem d_K_readyFile_25 : decode prog_1_method_31_code 25 = .ok (.getfield 21, 3) := by decide +kernel
theorem d_K_readyFile_28 : decode prog_1_method_31_code 28 = .ok (.iload_n 1, 1) := by decide +kernel
theorem d_K_readyFile_29 : decode prog_1_method_31_code 29 = .ok (.iconst 0, 1) := by decide +kernel
theorem d_K_readyFile_30 : decode prog_1_method_31_code 30 = .ok (.invokevirtual 68, 3) := by decide +kernel
theorem d_K_readyFile_33 : decode prog_1_method_31_code 33 = .ok (.goto 40, 3) := by decide +kernel
theorem d_K_readyFile_36 : decode prog_1_method_31_code 36 = .ok (.iload_n 2, 1) := by decide +kernel
theorem d_K_readyFile_37 : decode prog_1_method_31_code 37 = .ok (.bipush 16, 2) := by decide +kernel
theorem d_K_readyFile_39 : decode prog_1_method_31_code 39 = .ok (.iand, 1) := by decide +kernel
theorem d_K_readyFile_40 : decode prog_1_method_31_code 40 = .ok (.ifCond .eq 33, 3) := by decide +kernel
theorem d_K_readyFile_43 : decode prog_1_method_31_code 43 = .ok (.aload_n 0, 1) := by decide +kernel
theorem d_K_readyFile_44 : decode prog_1_method_31_code 44 = .ok (.getfield 10, 3) := by decide +kernel
theorem d_K_readyFile_47 : decode prog_1_method_31_code 47 = .ok (.iload_n 1, 1) := by decide +kernel
theorem d_K_readyFile_48 : decode prog_1_method_31_code 48 = .ok (.invokevirtual 236, 3) := by decide +kernel
theorem d_K_readyFile_51 : decode prog_1_method_31_code 51 = .ok (.ifCond .ne 5, 3) := by decide +kernel
theorem d_K_readyFile_54 : decode prog_1_method_31_code 54 = .ok (.iconst 0, 1) := by decide +kernel
theorem d_K_readyFile_55 : decode prog_1_method_31_code 55 = .ok (.ireturn, 1) := by decide +kernel
theorem d_K_readyFile_56 : decode prog_1_method_31_code 56 = .ok (.aload_n 0, 1) := by decide +kernel
theorem d_K_readyFile_57 : decode prog_1_method_31_code 57 = .ok (.getfield 21, 3) := by decide +kernel
theorem d_K_readyFile_60 : decode prog_1_method_31_code 60 = .ok (.iload_n 1, 1) := by decide +kernel
theorem d_K_readyFile_61 : decode prog_1_method_31_code 61 = .ok (.invokevirtual 154, 3) := by decide +kernel
theorem d_K_readyFile_64 : decode prog_1_method_31_code 64 = .ok (.aload_n 0, 1) := by decide +kernel
theorem d_K_readyFile_65 : decode prog_1_method_31_code 65 = .ok (.getfield 21, 3) := by decide +kernel
theorem d_K_readyFile_68 : decode prog_1_method_31_code 68 = .ok (.iload_n 1, 1) := by decide +kernel
theorem d_K_readyFile_69 : decode prog_1_method_31_code 69 = .ok (.iconst 0, 1) := by decide +kernel
theorem d_K_readyFile_70 : decode prog_1_method_31_code 70 = .ok (.invokevirtual 68, 3) := by decide +kernel
theorem d_K_readyFile_73 : decode prog_1_method_31_code 73 = .ok (.iconst 1, 1) := by decide +kernel
theorem d_K_readyFile_74 : decode prog_1_method_31_code 74 = .ok (.ireturn, 1) := by decide +kernel
theorem d_K_pipe_0 : decode prog_1_method_6_code 0 = .ok (.aload_n 0, 1) := by decide +kernel
theorem d_K_pipe_1 : decode prog_1_method_6_code 1 = .ok (.iload_n 1, 1) := by decide +kernel
theorem d_K_pipe_2 : decode prog_1_method_6_code 2 = .ok (.invokevirtual 75, 3) := by decide +kernel
theorem d_K_pipe_5 : decode prog_1_method_6_code 5 = .ok (.ifCond .ne 5, 3) := by decide +kernel
theorem d_K_pipe_8 : decode prog_1_method_6_code 8 = .ok (.iconst (-1), 1) := by decide +kernel
theorem d_K_pipe_9 : decode prog_1_method_6_code 9 = .ok (.ireturn, 1) := by decide +kernel
theorem d_K_pipe_10 : decode prog_1_method_6_code 10 = .ok (.aload_n 0, 1) := by decide +kernel
theorem d_K_pipe_11 : decode prog_1_method_6_code 11 = .ok (.getfield 44, 3) := by decide +kernel
theorem d_K_pipe_14 : decode prog_1_method_6_code 14 = .ok (.iload_n 1, 1) := by decide +kernel
theorem d_K_pipe_15 : decode prog_1_method_6_code 15 = .ok (.aaload, 1) := by decide +kernel
theorem d_K_pipe_16 : decode prog_1_method_6_code 16 = .ok (.astore_n 2, 1) := by decide +kernel
theorem d_K_pipe_17 : decode prog_1_method_6_code 17 = .ok (.aload_n 2, 1) := by decide +kernel
theorem d_K_pipe_18 : decode prog_1_method_6_code 18 = .ok (.iconst 0, 1) := by decide +kernel
theorem d_K_pipe_19 : decode prog_1_method_6_code 19 = .ok (.invokevirtual 81, 3) := by decide +kernel
theorem d_K_pipe_22 : decode prog_1_method_6_code 22 = .ok (.istore_n 3, 1) := by decide +kernel
theorem d_K_pipe_23 : decode prog_1_method_6_code 23 = .ok (.aload_n 2, 1) := by decide +kernel
theorem d_K_pipe_24 : decode prog_1_method_6_code 24 = .ok (.iload_n 3, 1) := by decide +kernel
theorem d_K_pipe_25 : decode prog_1_method_6_code 25 = .ok (.iconst 1, 1) := by decide +kernel
theorem d_K_pipe_26 : decode prog_1_method_6_code 26 = .ok (.iadd, 1) := by decide +kernel
theorem d_K_pipe_27 : decode prog_1_method_6_code 27 = .ok (.invokevirtual 81, 3) := by decide +kernel
theorem d_K_pipe_30 : decode prog_1_method_6_code 30 = .ok (.istore 4, 2) := by decide +kernel
theorem d_K_pipe_32 : decode prog_1_method_6_code 32 = .ok (.aload_n 0, 1) := by decide +kernel
theorem d_K_pipe_33 : decode prog_1_method_6_code 33 = .ok (.iconst 0, 1) := by decide +kernel
theorem d_K_pipe_34 : decode prog_1_method_6_code 34 = .ok (.invokevirtual 85, 3) := by decide +kernel
theorem d_K_pipe_37 : decode prog_1_method_6_code 37 = .ok (.istore 5, 2) := by decide +kernel
theorem d_K_pipe_39 : decode prog_1_method_6_code 39 = .ok (.aload_n 0, 1) := by decide +kernel
theorem d_K_pipe_40 : decode prog_1_method_6_code 40 = .ok (.iload 5, 2) := by decide +kernel
theorem d_K_pipe_42 : decode prog_1_method_6_code 42 = .ok (.iconst 1, 1) := by decide +kernel
theorem d_K_pipe_43 : decode prog_1_method_6_code 43 = .ok (.iadd, 1) := by decide +kernel
theorem d_K_pipe_44 : decode prog_1_method_6_code 44 = .ok (.invokevirtual 85, 3) := by decide +kernel
theorem d_K_pipe_47 : decode prog_1_method_6_code 47 = .ok (.istore 6, 2) := by decide +kernel
theorem d_K_pipe_49 : decode prog_1_method_6_code 49 = .ok (.iload 4, 2) := by decide +kernel
theorem d_K_pipe_51 : decode prog_1_method_6_code 51 = .ok (.iconst (-1), 1) := by decide +kernel
theorem d_K_pipe_52 : decode prog_1_method_6_code 52 = .ok (.if_icmp .eq 9, 3) := by decide +kernel
theorem d_K_pipe_55 : decode prog_1_method_6_code 55 = .ok (.iload 6, 2) := by decide +kernel
theorem d_K_pipe_57 : decode prog_1_method_6_code 57 = .ok (.iconst (-1), 1) := by decide +kernel
theorem d_K_pipe_58 : decode prog_1_method_6_code 58 = .ok (.if_icmp .ne 6, 3) := by decide +kernel
theorem d_K_pipe_61 : decode prog_1_method_6_code 61 = .ok (.bipush (-2), 2) := by decide +kernel
theorem d_K_pipe_63 : decode prog_1_method_6_code 63 = .ok (.ireturn, 1) := by decide +kernel
theorem d_K_pipe_64 : decode prog_1_method_6_code 64 = .ok (.new 98, 3) := by decide +kernel
theorem d_K_pipe_67 : decode prog_1_method_6_code 67 = .ok (.dup, 1) := by decide +kernel
theorem d_K_pipe_68 : decode prog_1_method_6_code 68 = .ok (.invokespecial 100, 3) := by decide +kernel
theorem d_K_pipe_71 : decode prog_1_method_6_code 71 = .ok (.astore 7, 2) := by decide +kernel
theorem d_K_pipe_73 : decode prog_1_method_6_code 73 = .ok (.aload_n 0, 1) := by decide +kernel
theorem d_K_pipe_74 : decode prog_1_method_6_code 74 = .ok (.getfield 37, 3) := by decide +kernel
theorem d_K_pipe_77 : decode prog_1_method_6_code 77 = .ok (.iload 5, 2) := by decide +kernel
theorem d_K_pipe_79 : decode prog_1_method_6_code 79 = .ok (.aaload, 1) := by decide +kernel
theorem d_K_pipe_80 : decode prog_1_method_6_code 80 = .ok (.aload 7, 2) := by decide +kernel
theorem d_K_pipe_82 : decode prog_1_method_6_code 82 = .ok (.iconst 1, 1) := by decide +kernel
theorem d_K_pipe_83 : decode prog_1_method_6_code 83 = .ok (.invokevirtual 101, 3) := by decide +kernel
theorem d_K_pipe_86 : decode prog_1_method_6_code 86 = .ok (.aload_n 0, 1) := by decide +kernel
theorem d_K_pipe_87 : decode prog_1_method_6_code 87 = .ok (.getfield 37, 3) := by decide +kernel
theorem d_K_pipe_90 : decode prog_1_method_6_code 90 = .ok (.iload 6, 2) := by decide +kernel
theorem d_K_pipe_92 : decode prog_1_method_6_code 92 = .ok (.aaload, 1) := by decide +kernel
theorem d_K_pipe_93 : decode prog_1_method_6_code 93 = .ok (.aload 7, 2) := by decide +kernel
theorem d_K_pipe_95 : decode prog_1_method_6_code 95 = .ok (.iconst 2, 1) := by decide +kernel
theorem d_K_pipe_96 : decode prog_1_method_6_code 96 = .ok (.invokevirtual 101, 3) := by decide +kernel
theorem d_K_pipe_99 : decode prog_1_method_6_code 99 = .ok (.aload_n 2, 1) := by decide +kernel
theorem d_K_pipe_100 : decode prog_1_method_6_code 100 = .ok (.iload_n 3, 1) := by decide +kernel
theorem d_K_pipe_101 : decode prog_1_method_6_code 101 = .ok (.aload_n 0, 1) := by decide +kernel
theorem d_K_pipe_102 : decode prog_1_method_6_code 102 = .ok (.getfield 37, 3) := by decide +kernel
theorem d_K_pipe_105 : decode prog_1_method_6_code 105 = .ok (.iload 5, 2) := by decide +kernel
theorem d_K_pipe_107 : decode prog_1_method_6_code 107 = .ok (.aaload, 1) := by decide +kernel
theorem d_K_pipe_108 : decode prog_1_method_6_code 108 = .ok (.invokevirtual 94, 3) := by decide +kernel
theorem d_K_pipe_111 : decode prog_1_method_6_code 111 = .ok (.aload_n 2, 1) := by decide +kernel
theorem d_K_pipe_112 : decode prog_1_method_6_code 112 = .ok (.iload 4, 2) := by decide +kernel
theorem d_K_pipe_114 : decode prog_1_method_6_code 114 = .ok (.aload_n 0, 1) := by decide +kernel
theorem d_K_pipe_115 : decode prog_1_method_6_code 115 = .ok (.getfield 37, 3) := by decide +kernel
theorem d_K_pipe_118 : decode prog_1_method_6_code 118 = .ok (.iload 6, 2) := by decide +kernel
theorem d_K_pipe_120 : decode prog_1_method_6_code 120 = .ok (.aaload, 1) := by decide +kernel
theorem d_K_pipe_121 : decode prog_1_method_6_code 121 = .ok (.invokevirtual 94, 3) := by decide +kernel
theorem d_K_pipe_124 : decode prog_1_method_6_code 124 = .ok (.iload_n 3, 1) := by decide +kernel
theorem d_K_pipe_125 : decode prog_1_method_6_code 125 = .ok (.bipush 8, 2) := by decide +kernel
theorem d_K_pipe_127 : decode prog_1_method_6_code 127 = .ok (.iload 4, 2) := by decide +kernel
theorem d_K_pipe_129 : decode prog_1_method_6_code 129 = .ok (.imul, 1) := by decide +kernel
theorem d_K_pipe_130 : decode prog_1_method_6_code 130 = .ok (.iadd, 1) := by decide +kernel
theorem d_K_pipe_131 : decode prog_1_method_6_code 131 = .ok (.ireturn, 1) := by decide +kernel
theorem d_K_read_0 : decode prog_1_method_7_code 0 = .ok (.aload_n 0, 1) := by decide +kernel
theorem d_K_read_1 : decode prog_1_method_7_code 1 = .ok (.iload_n 1, 1) := by decide +kernel
theorem d_K_read_2 : decode prog_1_method_7_code 2 = .ok (.iload_n 2, 1) := by decide +kernel
theorem d_K_read_3 : decode prog_1_method_7_code 3 = .ok (.invokevirtual 105, 3) := by decide +kernel
theorem d_K_read_6 : decode prog_1_method_7_code 6 = .ok (.astore_n 3, 1) := by decide +kernel
theorem d_K_read_7 : decode prog_1_method_7_code 7 = .ok (.aload_n 3, 1) := by decide +kernel
theorem d_K_read_8 : decode prog_1_method_7_code 8 = .ok (.ifnonnull 10, 3) := by decide +kernel
theorem d_K_read_11 : decode prog_1_method_7_code 11 = .ok (.aload_n 0, 1) := by decide +kernel
theorem d_K_read_12 : decode prog_1_method_7_code 12 = .ok (.iload_n 1, 1) := by decide +kernel
theorem d_K_read_13 : decode prog_1_method_7_code 13 = .ok (.iload_n 2, 1) := by decide +kernel
theorem d_K_read_14 : decode prog_1_method_7_code 14 = .ok (.invokevirtual 109, 3) := by decide +kernel
theorem d_K_read_17 : decode prog_1_method_7_code 17 = .ok (.ireturn, 1) := by decide +kernel
theorem d_K_read_18 : decode prog_1_method_7_code 18 = .ok (.aload_n 3, 1) := by decide +kernel
theorem d_K_read_19 : decode prog_1_method_7_code 19 = .ok (.iconst 1, 1) := by decide +kernel
theorem d_K_read_20 : decode prog_1_method_7_code 20 = .ok (.invokevirtual 113, 3) := by decide +kernel
theorem d_K_read_23 : decode prog_1_method_7_code 23 = .ok (.ifCond .ne 6, 3) := by decide +kernel
theorem d_K_read_26 : decode prog_1_method_7_code 26 = .ok (.bipush (-3), 2) := by decide +kernel
theorem d_K_read_28 : decode prog_1_method_7_code 28 = .ok (.ireturn, 1) := by decide +kernel
theorem d_K_read_29 : decode prog_1_method_7_code 29 = .ok (.aload_n 3, 1) := by decide +kernel
theorem d_K_read_30 : decode prog_1_method_7_code 30 = .ok (.getfield 116, 3) := by decide +kernel
theorem d_K_read_33 : decode prog_1_method_7_code 33 = .ok (.astore 4, 2) := by decide +kernel
theorem d_K_read_35 : decode prog_1_method_7_code 35 = .ok (.aload 4, 2) := by decide +kernel
theorem d_K_read_37 : decode prog_1_method_7_code 37 = .ok (.ifnonnull 11, 3) := by decide +kernel
theorem d_K_read_40 : decode prog_1_method_7_code 40 = .ok (.aload_n 0, 1) := by decide +kernel
theorem d_K_read_41 : decode prog_1_method_7_code 41 = .ok (.aload_n 3, 1) := by decide +kernel
theorem d_K_read_42 : decode prog_1_method_7_code 42 = .ok (.invokevirtual 120, 3) := by decide +kernel
theorem d_K_read_45 : decode prog_1_method_7_code 45 = .ok (.goto 8, 3) := by decide +kernel
theorem d_K_read_48 : decode prog_1_method_7_code 48 = .ok (.aload 4, 2) := by decide +kernel
theorem d_K_read_50 : decode prog_1_method_7_code 50 = .ok (.invokevirtual 124, 3) := by decide +kernel
theorem d_K_read_53 : decode prog_1_method_7_code 53 = .ok (.ireturn, 1) := by decide +kernel
theorem d_K_openingOf_0 : decode prog_1_method_24_code 0 = .ok (.aload_n 0, 1) := by decide +kernel
theorem d_K_openingOf_1 : decode prog_1_method_24_code 1 = .ok (.iload_n 1, 1) := by decide +kernel
theorem d_K_openingOf_2 : decode prog_1_method_24_code 2 = .ok (.invokevirtual 75, 3) := by decide +kernel
theorem d_K_openingOf_5 : decode prog_1_method_24_code 5 = .ok (.ifCond .eq 12, 3) := by decide +kernel
theorem d_K_openingOf_8 : decode prog_1_method_24_code 8 = .ok (.iload_n 2, 1) := by decide +kernel
theorem d_K_openingOf_9 : decode prog_1_method_24_code 9 = .ok (.bipush 6, 2) := by decide +kernel
theorem d_K_openingOf_11 : decode prog_1_method_24_code 11 = .ok (.invokestatic 53, 3) := by decide +kernel
theorem d_K_openingOf_14 : decode prog_1_method_24_code 14 = .ok (.ifCond .ne 5, 3) := by decide +kernel
theorem d_K_openingOf_17 : decode prog_1_method_24_code 17 = .ok (.aconst_null, 1) := by decide +kernel
theorem d_K_openingOf_18 : decode prog_1_method_24_code 18 = .ok (.areturn, 1) := by decide +kernel
theorem d_K_openingOf_19 : decode prog_1_method_24_code 19 = .ok (.aload_n 0, 1) := by decide +kernel
theorem d_K_openingOf_20 : decode prog_1_method_24_code 20 = .ok (.getfield 44, 3) := by decide +kernel
theorem d_K_openingOf_23 : decode prog_1_method_24_code 23 = .ok (.iload_n 1, 1) := by decide +kernel
theorem d_K_openingOf_24 : decode prog_1_method_24_code 24 = .ok (.aaload, 1) := by decide +kernel
theorem d_K_openingOf_25 : decode prog_1_method_24_code 25 = .ok (.getfield 224, 3) := by decide +kernel
theorem d_K_openingOf_28 : decode prog_1_method_24_code 28 = .ok (.iload_n 2, 1) := by decide +kernel
theorem d_K_openingOf_29 : decode prog_1_method_24_code 29 = .ok (.aaload, 1) := by decide +kernel
theorem d_K_openingOf_30 : decode prog_1_method_24_code 30 = .ok (.areturn, 1) := by decide +kernel
theorem d_K_whyNoOpening_0 : decode prog_1_method_25_code 0 = .ok (.aload_n 0, 1) := by decide +kernel
theorem d_K_whyNoOpening_1 : decode prog_1_method_25_code 1 = .ok (.iload_n 1, 1) := by decide +kernel
theorem d_K_whyNoOpening_2 : decode prog_1_method_25_code 2 = .ok (.invokevirtual 75, 3) := by decide +kernel
theorem d_K_whyNoOpening_5 : decode prog_1_method_25_code 5 = .ok (.ifCond .eq 17, 3) := by decide +kernel
theorem d_K_whyNoOpening_8 : decode prog_1_method_25_code 8 = .ok (.iload_n 2, 1) := by decide +kernel
theorem d_K_whyNoOpening_9 : decode prog_1_method_25_code 9 = .ok (.bipush 6, 2) := by decide +kernel
theorem d_K_whyNoOpening_11 : decode prog_1_method_25_code 11 = .ok (.invokestatic 53, 3) := by decide +kernel
theorem d_K_whyNoOpening_14 : decode prog_1_method_25_code 14 = .ok (.ifCond .eq 8, 3) := by decide +kernel
theorem d_K_whyNoOpening_17 : decode prog_1_method_25_code 17 = .ok (.bipush (-3), 2) := by decide +kernel
theorem d_K_whyNoOpening_19 : decode prog_1_method_25_code 19 = .ok (.goto 4, 3) := by decide +kernel
theorem d_K_whyNoOpening_22 : decode prog_1_method_25_code 22 = .ok (.iconst (-1), 1) := by decide +kernel
theorem d_K_whyNoOpening_23 : decode prog_1_method_25_code 23 = .ok (.ireturn, 1) := by decide +kernel
theorem d_K_readFile_0 : decode prog_1_method_32_code 0 = .ok (.aload_n 1, 1) := by decide +kernel
theorem d_K_readFile_1 : decode prog_1_method_32_code 1 = .ok (.getfield 142, 3) := by decide +kernel
theorem d_K_readFile_4 : decode prog_1_method_32_code 4 = .ok (.istore_n 2, 1) := by decide +kernel
theorem d_K_readFile_5 : decode prog_1_method_32_code 5 = .ok (.iload_n 2, 1) := by decide +kernel
theorem d_K_readFile_6 : decode prog_1_method_32_code 6 = .ok (.aload_n 0, 1) := by decide +kernel
theorem d_K_readFile_7 : decode prog_1_method_32_code 7 = .ok (.getfield 21, 3) := by decide +kernel
theorem d_K_readFile_10 : decode prog_1_method_32_code 10 = .ok (.aload_n 1, 1) := by decide +kernel
theorem d_K_readFile_11 : decode prog_1_method_32_code 11 = .ok (.getfield 135, 3) := by decide +kernel
theorem d_K_readFile_14 : decode prog_1_method_32_code 14 = .ok (.invokevirtual 139, 3) := by decide +kernel
theorem d_K_readFile_17 : decode prog_1_method_32_code 17 = .ok (.if_icmp .lt 6, 3) := by decide +kernel
theorem d_K_readFile_20 : decode prog_1_method_32_code 20 = .ok (.bipush (-7), 2) := by decide +kernel
theorem d_K_readFile_22 : decode prog_1_method_32_code 22 = .ok (.ireturn, 1) := by decide +kernel
theorem d_K_readFile_23 : decode prog_1_method_32_code 23 = .ok (.aload_n 0, 1) := by decide +kernel
theorem d_K_readFile_24 : decode prog_1_method_32_code 24 = .ok (.getfield 21, 3) := by decide +kernel
theorem d_K_readFile_27 : decode prog_1_method_32_code 27 = .ok (.aload_n 1, 1) := by decide +kernel
theorem d_K_readFile_28 : decode prog_1_method_32_code 28 = .ok (.getfield 135, 3) := by decide +kernel
theorem d_K_readFile_31 : decode prog_1_method_32_code 31 = .ok (.iload_n 2, 1) := by decide +kernel
theorem d_K_readFile_32 : decode prog_1_method_32_code 32 = .ok (.bipush 8, 2) := by decide +kernel
theorem d_K_readFile_34 : decode prog_1_method_32_code 34 = .ok (.idiv, 1) := by decide +kernel
theorem d_K_readFile_35 : decode prog_1_method_32_code 35 = .ok (.invokevirtual 239, 3) := by decide +kernel
theorem d_K_readFile_38 : decode prog_1_method_32_code 38 = .ok (.astore_n 3, 1) := by decide +kernel
theorem d_K_readFile_39 : decode prog_1_method_32_code 39 = .ok (.aload_n 3, 1) := by decide +kernel
theorem d_K_readFile_40 : decode prog_1_method_32_code 40 = .ok (.ifnonnull 6, 3) := by decide +kernel
theorem d_K_readFile_43 : decode prog_1_method_32_code 43 = .ok (.bipush (-8), 2) := by decide +kernel
theorem d_K_readFile_45 : decode prog_1_method_32_code 45 = .ok (.ireturn, 1) := by decide +kernel
theorem d_K_readFile_46 : decode prog_1_method_32_code 46 = .ok (.aload_n 1, 1) := by decide +kernel
theorem d_K_readFile_47 : decode prog_1_method_32_code 47 = .ok (.iload_n 2, 1) := by decide +kernel
theorem d_K_readFile_48 : decode prog_1_method_32_code 48 = .ok (.iconst 1, 1) := by decide +kernel
theorem d_K_readFile_49 : decode prog_1_method_32_code 49 = .ok (.iadd, 1) := by decide +kernel
theorem d_K_readFile_50 : decode prog_1_method_32_code 50 = .ok (.putfield 142, 3) := by decide +kernel
theorem d_K_readFile_53 : decode prog_1_method_32_code 53 = .ok (.aload_n 3, 1) := by decide +kernel
theorem d_K_readFile_54 : decode prog_1_method_32_code 54 = .ok (.getfield 243, 3) := by decide +kernel
theorem d_K_readFile_57 : decode prog_1_method_32_code 57 = .ok (.iload_n 2, 1) := by decide +kernel
theorem d_K_readFile_58 : decode prog_1_method_32_code 58 = .ok (.bipush 8, 2) := by decide +kernel
theorem d_K_readFile_60 : decode prog_1_method_32_code 60 = .ok (.irem, 1) := by decide +kernel
theorem d_K_readFile_61 : decode prog_1_method_32_code 61 = .ok (.iaload, 1) := by decide +kernel
theorem d_K_readFile_62 : decode prog_1_method_32_code 62 = .ok (.ireturn, 1) := by decide +kernel
theorem d_K_write_0 : decode prog_1_method_8_code 0 = .ok (.iload_n 3, 1) := by decide +kernel
theorem d_K_write_1 : decode prog_1_method_8_code 1 = .ok (.sipush 256, 3) := by decide +kernel
theorem d_K_write_4 : decode prog_1_method_8_code 4 = .ok (.invokestatic 53, 3) := by decide +kernel
theorem d_K_write_7 : decode prog_1_method_8_code 7 = .ok (.ifCond .ne 5, 3) := by decide +kernel
theorem d_K_write_10 : decode prog_1_method_8_code 10 = .ok (.iconst (-1), 1) := by decide +kernel
theorem d_K_write_11 : decode prog_1_method_8_code 11 = .ok (.ireturn, 1) := by decide +kernel
theorem d_K_write_12 : decode prog_1_method_8_code 12 = .ok (.aload_n 0, 1) := by decide +kernel
theorem d_K_write_13 : decode prog_1_method_8_code 13 = .ok (.iload_n 1, 1) := by decide +kernel
theorem d_K_write_14 : decode prog_1_method_8_code 14 = .ok (.iload_n 2, 1) := by decide +kernel
theorem d_K_write_15 : decode prog_1_method_8_code 15 = .ok (.invokevirtual 105, 3) := by decide +kernel
theorem d_K_write_18 : decode prog_1_method_8_code 18 = .ok (.astore 4, 2) := by decide +kernel
theorem d_K_write_20 : decode prog_1_method_8_code 20 = .ok (.aload 4, 2) := by decide +kernel
theorem d_K_write_22 : decode prog_1_method_8_code 22 = .ok (.ifnonnull 10, 3) := by decide +kernel
theorem d_K_write_25 : decode prog_1_method_8_code 25 = .ok (.aload_n 0, 1) := by decide +kernel
theorem d_K_write_26 : decode prog_1_method_8_code 26 = .ok (.iload_n 1, 1) := by decide +kernel
theorem d_K_write_27 : decode prog_1_method_8_code 27 = .ok (.iload_n 2, 1) := by decide +kernel
theorem d_K_write_28 : decode prog_1_method_8_code 28 = .ok (.invokevirtual 109, 3) := by decide +kernel
theorem d_K_write_31 : decode prog_1_method_8_code 31 = .ok (.ireturn, 1) := by decide +kernel
theorem d_K_write_32 : decode prog_1_method_8_code 32 = .ok (.aload 4, 2) := by decide +kernel
theorem d_K_write_34 : decode prog_1_method_8_code 34 = .ok (.iconst 2, 1) := by decide +kernel
theorem d_K_write_35 : decode prog_1_method_8_code 35 = .ok (.invokevirtual 113, 3) := by decide +kernel
theorem d_K_write_38 : decode prog_1_method_8_code 38 = .ok (.ifCond .ne 6, 3) := by decide +kernel
theorem d_K_write_41 : decode prog_1_method_8_code 41 = .ok (.bipush (-3), 2) := by decide +kernel
theorem d_K_write_43 : decode prog_1_method_8_code 43 = .ok (.ireturn, 1) := by decide +kernel
theorem d_K_write_44 : decode prog_1_method_8_code 44 = .ok (.aload 4, 2) := by decide +kernel
theorem d_K_write_46 : decode prog_1_method_8_code 46 = .ok (.getfield 116, 3) := by decide +kernel
theorem d_K_write_49 : decode prog_1_method_8_code 49 = .ok (.astore 5, 2) := by decide +kernel
theorem d_K_write_51 : decode prog_1_method_8_code 51 = .ok (.aload 5, 2) := by decide +kernel
theorem d_K_write_53 : decode prog_1_method_8_code 53 = .ok (.ifnonnull 13, 3) := by decide +kernel
theorem d_K_write_56 : decode prog_1_method_8_code 56 = .ok (.aload_n 0, 1) := by decide +kernel
theorem d_K_write_57 : decode prog_1_method_8_code 57 = .ok (.aload 4, 2) := by decide +kernel
theorem d_K_write_59 : decode prog_1_method_8_code 59 = .ok (.iload_n 3, 1) := by decide +kernel
theorem d_K_write_60 : decode prog_1_method_8_code 60 = .ok (.invokevirtual 128, 3) := by decide +kernel
theorem d_K_write_63 : decode prog_1_method_8_code 63 = .ok (.goto 9, 3) := by decide +kernel
theorem d_K_write_66 : decode prog_1_method_8_code 66 = .ok (.aload 5, 2) := by decide +kernel
theorem d_K_write_68 : decode prog_1_method_8_code 68 = .ok (.iload_n 3, 1) := by decide +kernel
theorem d_K_write_69 : decode prog_1_method_8_code 69 = .ok (.invokevirtual 132, 3) := by decide +kernel
theorem d_K_write_72 : decode prog_1_method_8_code 72 = .ok (.ireturn, 1) := by decide +kernel
theorem d_K_writeFile_0 : decode prog_1_method_33_code 0 = .ok (.aload_n 0, 1) := by decide +kernel
theorem d_K_writeFile_1 : decode prog_1_method_33_code 1 = .ok (.getfield 21, 3) := by decide +kernel
theorem d_K_writeFile_4 : decode prog_1_method_33_code 4 = .ok (.aload_n 1, 1) := by decide +kernel
theorem d_K_writeFile_5 : decode prog_1_method_33_code 5 = .ok (.getfield 135, 3) := by decide +kernel
theorem d_K_writeFile_8 : decode prog_1_method_33_code 8 = .ok (.invokevirtual 139, 3) := by decide +kernel
theorem d_K_writeFile_11 : decode prog_1_method_33_code 11 = .ok (.istore_n 3, 1) := by decide +kernel
theorem d_K_writeFile_12 : decode prog_1_method_33_code 12 = .ok (.aload_n 1, 1) := by decide +kernel
theorem d_K_writeFile_13 : decode prog_1_method_33_code 13 = .ok (.iconst 4, 1) := by decide +kernel
theorem d_K_writeFile_14 : decode prog_1_method_33_code 14 = .ok (.invokevirtual 113, 3) := by decide +kernel
theorem d_K_writeFile_17 : decode prog_1_method_33_code 17 = .ok (.ifCond .eq 7, 3) := by decide +kernel
theorem d_K_writeFile_20 : decode prog_1_method_33_code 20 = .ok (.iload_n 3, 1) := by decide +kernel
theorem d_K_writeFile_21 : decode prog_1_method_33_code 21 = .ok (.goto 7, 3) := by decide +kernel
theorem d_K_writeFile_24 : decode prog_1_method_33_code 24 = .ok (.aload_n 1, 1) := by decide +kernel
theorem d_K_writeFile_25 : decode prog_1_method_33_code 25 = .ok (.getfield 142, 3) := by decide +kernel
theorem d_K_writeFile_28 : decode prog_1_method_33_code 28 = .ok (.istore 4, 2) := by decide +kernel
theorem d_K_writeFile_30 : decode prog_1_method_33_code 30 = .ok (.iload 4, 2) := by decide +kernel
theorem d_K_writeFile_32 : decode prog_1_method_33_code 32 = .ok (.bipush 32, 2) := by decide +kernel
theorem d_K_writeFile_34 : decode prog_1_method_33_code 34 = .ok (.if_icmp .lt 6, 3) := by decide +kernel
theorem d_K_writeFile_37 : decode prog_1_method_33_code 37 = .ok (.bipush (-2), 2) := by decide +kernel
theorem d_K_writeFile_39 : decode prog_1_method_33_code 39 = .ok (.ireturn, 1) := by decide +kernel
theorem d_K_writeFile_40 : decode prog_1_method_33_code 40 = .ok (.aload_n 0, 1) := by decide +kernel
theorem d_K_writeFile_41 : decode prog_1_method_33_code 41 = .ok (.getfield 21, 3) := by decide +kernel
theorem d_K_writeFile_44 : decode prog_1_method_33_code 44 = .ok (.aload_n 1, 1) := by decide +kernel
theorem d_K_writeFile_45 : decode prog_1_method_33_code 45 = .ok (.getfield 135, 3) := by decide +kernel
theorem d_K_writeFile_48 : decode prog_1_method_33_code 48 = .ok (.iload 4, 2) := by decide +kernel
theorem d_K_writeFile_50 : decode prog_1_method_33_code 50 = .ok (.bipush 8, 2) := by decide +kernel
theorem d_K_writeFile_52 : decode prog_1_method_33_code 52 = .ok (.idiv, 1) := by decide +kernel
theorem d_K_writeFile_53 : decode prog_1_method_33_code 53 = .ok (.invokevirtual 239, 3) := by decide +kernel
theorem d_K_writeFile_56 : decode prog_1_method_33_code 56 = .ok (.astore 5, 2) := by decide +kernel
theorem d_K_writeFile_58 : decode prog_1_method_33_code 58 = .ok (.aload 5, 2) := by decide +kernel
theorem d_K_writeFile_60 : decode prog_1_method_33_code 60 = .ok (.ifnonnull 6, 3) := by decide +kernel
theorem d_K_writeFile_63 : decode prog_1_method_33_code 63 = .ok (.bipush (-8), 2) := by decide +kernel
theorem d_K_writeFile_65 : decode prog_1_method_33_code 65 = .ok (.ireturn, 1) := by decide +kernel
theorem d_K_writeFile_66 : decode prog_1_method_33_code 66 = .ok (.aload 5, 2) := by decide +kernel
theorem d_K_writeFile_68 : decode prog_1_method_33_code 68 = .ok (.iconst 1, 1) := by decide +kernel
theorem d_K_writeFile_69 : decode prog_1_method_33_code 69 = .ok (.putfield 246, 3) := by decide +kernel
theorem d_K_writeFile_72 : decode prog_1_method_33_code 72 = .ok (.aload 5, 2) := by decide +kernel
theorem d_K_writeFile_74 : decode prog_1_method_33_code 74 = .ok (.getfield 243, 3) := by decide +kernel
theorem d_K_writeFile_77 : decode prog_1_method_33_code 77 = .ok (.iload 4, 2) := by decide +kernel
theorem d_K_writeFile_79 : decode prog_1_method_33_code 79 = .ok (.bipush 8, 2) := by decide +kernel
theorem d_K_writeFile_81 : decode prog_1_method_33_code 81 = .ok (.irem, 1) := by decide +kernel
theorem d_K_writeFile_82 : decode prog_1_method_33_code 82 = .ok (.iload_n 2, 1) := by decide +kernel
theorem d_K_writeFile_83 : decode prog_1_method_33_code 83 = .ok (.iastore, 1) := by decide +kernel
theorem d_K_writeFile_84 : decode prog_1_method_33_code 84 = .ok (.aload_n 0, 1) := by decide +kernel
theorem d_K_writeFile_85 : decode prog_1_method_33_code 85 = .ok (.getfield 21, 3) := by decide +kernel
theorem d_K_writeFile_88 : decode prog_1_method_33_code 88 = .ok (.aload_n 1, 1) := by decide +kernel
theorem d_K_writeFile_89 : decode prog_1_method_33_code 89 = .ok (.getfield 135, 3) := by decide +kernel
theorem d_K_writeFile_92 : decode prog_1_method_33_code 92 = .ok (.iload_n 3, 1) := by decide +kernel
theorem d_K_writeFile_93 : decode prog_1_method_33_code 93 = .ok (.iload 4, 2) := by decide +kernel
theorem d_K_writeFile_95 : decode prog_1_method_33_code 95 = .ok (.iconst 1, 1) := by decide +kernel
theorem d_K_writeFile_96 : decode prog_1_method_33_code 96 = .ok (.iadd, 1) := by decide +kernel
theorem d_K_writeFile_97 : decode prog_1_method_33_code 97 = .ok (.invokestatic 250, 3) := by decide +kernel
theorem d_K_writeFile_100 : decode prog_1_method_33_code 100 = .ok (.invokevirtual 68, 3) := by decide +kernel
theorem d_K_writeFile_103 : decode prog_1_method_33_code 103 = .ok (.aload_n 1, 1) := by decide +kernel
theorem d_K_writeFile_104 : decode prog_1_method_33_code 104 = .ok (.iload 4, 2) := by decide +kernel
theorem d_K_writeFile_106 : decode prog_1_method_33_code 106 = .ok (.iconst 1, 1) := by decide +kernel
theorem d_K_writeFile_107 : decode prog_1_method_33_code 107 = .ok (.iadd, 1) := by decide +kernel
theorem d_K_writeFile_108 : decode prog_1_method_33_code 108 = .ok (.putfield 142, 3) := by decide +kernel
theorem d_K_writeFile_111 : decode prog_1_method_33_code 111 = .ok (.iconst 1, 1) := by decide +kernel
theorem d_K_writeFile_112 : decode prog_1_method_33_code 112 = .ok (.ireturn, 1) := by decide +kernel
theorem d_K_seek_0 : decode prog_1_method_9_code 0 = .ok (.iload_n 3, 1) := by decide +kernel
theorem d_K_seek_1 : decode prog_1_method_9_code 1 = .ok (.bipush 33, 2) := by decide +kernel
theorem d_K_seek_3 : decode prog_1_method_9_code 3 = .ok (.invokestatic 53, 3) := by decide +kernel
theorem d_K_seek_6 : decode prog_1_method_9_code 6 = .ok (.ifCond .ne 5, 3) := by decide +kernel
theorem d_K_seek_9 : decode prog_1_method_9_code 9 = .ok (.iconst (-1), 1) := by decide +kernel
theorem d_K_seek_10 : decode prog_1_method_9_code 10 = .ok (.ireturn, 1) := by decide +kernel
theorem d_K_seek_11 : decode prog_1_method_9_code 11 = .ok (.aload_n 0, 1) := by decide +kernel
theorem d_K_seek_12 : decode prog_1_method_9_code 12 = .ok (.iload_n 1, 1) := by decide +kernel
theorem d_K_seek_13 : decode prog_1_method_9_code 13 = .ok (.iload_n 2, 1) := by decide +kernel
theorem d_K_seek_14 : decode prog_1_method_9_code 14 = .ok (.invokevirtual 105, 3) := by decide +kernel
theorem d_K_seek_17 : decode prog_1_method_9_code 17 = .ok (.astore 4, 2) := by decide +kernel
theorem d_K_seek_19 : decode prog_1_method_9_code 19 = .ok (.aload 4, 2) := by decide +kernel
theorem d_K_seek_21 : decode prog_1_method_9_code 21 = .ok (.ifnonnull 10, 3) := by decide +kernel
theorem d_K_seek_24 : decode prog_1_method_9_code 24 = .ok (.aload_n 0, 1) := by decide +kernel
theorem d_K_seek_25 : decode prog_1_method_9_code 25 = .ok (.iload_n 1, 1) := by decide +kernel
theorem d_K_seek_26 : decode prog_1_method_9_code 26 = .ok (.iload_n 2, 1) := by decide +kernel
theorem d_K_seek_27 : decode prog_1_method_9_code 27 = .ok (.invokevirtual 109, 3) := by decide +kernel
theorem d_K_seek_30 : decode prog_1_method_9_code 30 = .ok (.ireturn, 1) := by decide +kernel
theorem d_K_seek_31 : decode prog_1_method_9_code 31 = .ok (.aload 4, 2) := by decide +kernel
theorem d_K_seek_33 : decode prog_1_method_9_code 33 = .ok (.getfield 116, 3) := by decide +kernel
theorem d_K_seek_36 : decode prog_1_method_9_code 36 = .ok (.ifnull 6, 3) := by decide +kernel
theorem d_K_seek_39 : decode prog_1_method_9_code 39 = .ok (.bipush (-3), 2) := by decide +kernel
theorem d_K_seek_41 : decode prog_1_method_9_code 41 = .ok (.ireturn, 1) := by decide +kernel
theorem d_K_seek_42 : decode prog_1_method_9_code 42 = .ok (.iload_n 3, 1) := by decide +kernel
theorem d_K_seek_43 : decode prog_1_method_9_code 43 = .ok (.aload_n 0, 1) := by decide +kernel
theorem d_K_seek_44 : decode prog_1_method_9_code 44 = .ok (.getfield 21, 3) := by decide +kernel
theorem d_K_seek_47 : decode prog_1_method_9_code 47 = .ok (.aload 4, 2) := by decide +kernel
theorem d_K_seek_49 : decode prog_1_method_9_code 49 = .ok (.getfield 135, 3) := by decide +kernel
theorem d_K_seek_52 : decode prog_1_method_9_code 52 = .ok (.invokevirtual 139, 3) := by decide +kernel
theorem d_K_seek_55 : decode prog_1_method_9_code 55 = .ok (.if_icmp .le 5, 3) := by decide +kernel
theorem d_K_seek_58 : decode prog_1_method_9_code 58 = .ok (.iconst (-1), 1) := by decide +kernel
theorem d_K_seek_59 : decode prog_1_method_9_code 59 = .ok (.ireturn, 1) := by decide +kernel
theorem d_K_seek_60 : decode prog_1_method_9_code 60 = .ok (.aload 4, 2) := by decide +kernel
theorem d_K_seek_62 : decode prog_1_method_9_code 62 = .ok (.iload_n 3, 1) := by decide +kernel
theorem d_K_seek_63 : decode prog_1_method_9_code 63 = .ok (.putfield 142, 3) := by decide +kernel
theorem d_K_seek_66 : decode prog_1_method_9_code 66 = .ok (.iload_n 3, 1) := by decide +kernel
theorem d_K_seek_67 : decode prog_1_method_9_code 67 = .ok (.ireturn, 1) := by decide +kernel
theorem d_K_sync_0 : decode prog_1_method_10_code 0 = .ok (.aload_n 0, 1) := by decide +kernel
theorem d_K_sync_1 : decode prog_1_method_10_code 1 = .ok (.iload_n 1, 1) := by decide +kernel
theorem d_K_sync_2 : decode prog_1_method_10_code 2 = .ok (.iload_n 2, 1) := by decide +kernel
theorem d_K_sync_3 : decode prog_1_method_10_code 3 = .ok (.invokevirtual 105, 3) := by decide +kernel
theorem d_K_sync_6 : decode prog_1_method_10_code 6 = .ok (.astore_n 3, 1) := by decide +kernel
theorem d_K_sync_7 : decode prog_1_method_10_code 7 = .ok (.aload_n 3, 1) := by decide +kernel
theorem d_K_sync_8 : decode prog_1_method_10_code 8 = .ok (.ifnonnull 10, 3) := by decide +kernel
theorem d_K_sync_11 : decode prog_1_method_10_code 11 = .ok (.aload_n 0, 1) := by decide +kernel
theorem d_K_sync_12 : decode prog_1_method_10_code 12 = .ok (.iload_n 1, 1) := by decide +kernel
theorem d_K_sync_13 : decode prog_1_method_10_code 13 = .ok (.iload_n 2, 1) := by decide +kernel
theorem d_K_sync_14 : decode prog_1_method_10_code 14 = .ok (.invokevirtual 109, 3) := by decide +kernel
theorem d_K_sync_17 : decode prog_1_method_10_code 17 = .ok (.ireturn, 1) := by decide +kernel
theorem d_K_sync_18 : decode prog_1_method_10_code 18 = .ok (.aload_n 3, 1) := by decide +kernel
theorem d_K_sync_19 : decode prog_1_method_10_code 19 = .ok (.getfield 116, 3) := by decide +kernel
theorem d_K_sync_22 : decode prog_1_method_10_code 22 = .ok (.ifnull 6, 3) := by decide +kernel
theorem d_K_sync_25 : decode prog_1_method_10_code 25 = .ok (.bipush (-3), 2) := by decide +kernel
theorem d_K_sync_27 : decode prog_1_method_10_code 27 = .ok (.ireturn, 1) := by decide +kernel
theorem d_K_sync_28 : decode prog_1_method_10_code 28 = .ok (.aload_n 0, 1) := by decide +kernel
theorem d_K_sync_29 : decode prog_1_method_10_code 29 = .ok (.getfield 21, 3) := by decide +kernel
theorem d_K_sync_32 : decode prog_1_method_10_code 32 = .ok (.aload_n 3, 1) := by decide +kernel
theorem d_K_sync_33 : decode prog_1_method_10_code 33 = .ok (.getfield 135, 3) := by decide +kernel
theorem d_K_sync_36 : decode prog_1_method_10_code 36 = .ok (.invokevirtual 145, 3) := by decide +kernel
theorem d_K_sync_39 : decode prog_1_method_10_code 39 = .ok (.ireturn, 1) := by decide +kernel
theorem d_K_dup_0 : decode prog_1_method_11_code 0 = .ok (.aload_n 0, 1) := by decide +kernel
theorem d_K_dup_1 : decode prog_1_method_11_code 1 = .ok (.iload_n 1, 1) := by decide +kernel
theorem d_K_dup_2 : decode prog_1_method_11_code 2 = .ok (.iload_n 2, 1) := by decide +kernel
theorem d_K_dup_3 : decode prog_1_method_11_code 3 = .ok (.invokevirtual 105, 3) := by decide +kernel
theorem d_K_dup_6 : decode prog_1_method_11_code 6 = .ok (.astore_n 3, 1) := by decide +kernel
theorem d_K_dup_7 : decode prog_1_method_11_code 7 = .ok (.aload_n 3, 1) := by decide +kernel
theorem d_K_dup_8 : decode prog_1_method_11_code 8 = .ok (.ifnonnull 10, 3) := by decide +kernel
theorem d_K_dup_11 : decode prog_1_method_11_code 11 = .ok (.aload_n 0, 1) := by decide +kernel
theorem d_K_dup_12 : decode prog_1_method_11_code 12 = .ok (.iload_n 1, 1) := by decide +kernel
theorem d_K_dup_13 : decode prog_1_method_11_code 13 = .ok (.iload_n 2, 1) := by decide +kernel
theorem d_K_dup_14 : decode prog_1_method_11_code 14 = .ok (.invokevirtual 109, 3) := by decide +kernel
theorem d_K_dup_17 : decode prog_1_method_11_code 17 = .ok (.ireturn, 1) := by decide +kernel
theorem d_K_dup_18 : decode prog_1_method_11_code 18 = .ok (.aload_n 0, 1) := by decide +kernel
theorem d_K_dup_19 : decode prog_1_method_11_code 19 = .ok (.getfield 44, 3) := by decide +kernel
theorem d_K_dup_22 : decode prog_1_method_11_code 22 = .ok (.iload_n 1, 1) := by decide +kernel
theorem d_K_dup_23 : decode prog_1_method_11_code 23 = .ok (.aaload, 1) := by decide +kernel
theorem d_K_dup_24 : decode prog_1_method_11_code 24 = .ok (.iconst 0, 1) := by decide +kernel
theorem d_K_dup_25 : decode prog_1_method_11_code 25 = .ok (.invokevirtual 81, 3) := by decide +kernel
theorem d_K_dup_28 : decode prog_1_method_11_code 28 = .ok (.istore 4, 2) := by decide +kernel
theorem d_K_dup_30 : decode prog_1_method_11_code 30 = .ok (.iload 4, 2) := by decide +kernel
theorem d_K_dup_32 : decode prog_1_method_11_code 32 = .ok (.iconst (-1), 1) := by decide +kernel
theorem d_K_dup_33 : decode prog_1_method_11_code 33 = .ok (.if_icmp .ne 6, 3) := by decide +kernel
theorem d_K_dup_36 : decode prog_1_method_11_code 36 = .ok (.bipush (-2), 2) := by decide +kernel
theorem d_K_dup_38 : decode prog_1_method_11_code 38 = .ok (.ireturn, 1) := by decide +kernel
theorem d_K_dup_39 : decode prog_1_method_11_code 39 = .ok (.aload_n 0, 1) := by decide +kernel
theorem d_K_dup_40 : decode prog_1_method_11_code 40 = .ok (.getfield 44, 3) := by decide +kernel
theorem d_K_dup_43 : decode prog_1_method_11_code 43 = .ok (.iload_n 1, 1) := by decide +kernel
theorem d_K_dup_44 : decode prog_1_method_11_code 44 = .ok (.aaload, 1) := by decide +kernel
theorem d_K_dup_45 : decode prog_1_method_11_code 45 = .ok (.iload 4, 2) := by decide +kernel
theorem d_K_dup_47 : decode prog_1_method_11_code 47 = .ok (.aload_n 3, 1) := by decide +kernel
theorem d_K_dup_48 : decode prog_1_method_11_code 48 = .ok (.invokevirtual 94, 3) := by decide +kernel
theorem d_K_dup_51 : decode prog_1_method_11_code 51 = .ok (.iload 4, 2) := by decide +kernel
theorem d_K_dup_53 : decode prog_1_method_11_code 53 = .ok (.ireturn, 1) := by decide +kernel
theorem d_K_close_0 : decode prog_1_method_12_code 0 = .ok (.aload_n 0, 1) := by decide +kernel
theorem d_K_close_1 : decode prog_1_method_12_code 1 = .ok (.iload_n 1, 1) := by decide +kernel
theorem d_K_close_2 : decode prog_1_method_12_code 2 = .ok (.iload_n 2, 1) := by decide +kernel
theorem d_K_close_3 : decode prog_1_method_12_code 3 = .ok (.invokevirtual 105, 3) := by decide +kernel
theorem d_K_close_6 : decode prog_1_method_12_code 6 = .ok (.ifnonnull 10, 3) := by decide +kernel
theorem d_K_close_9 : decode prog_1_method_12_code 9 = .ok (.aload_n 0, 1) := by decide +kernel
theorem d_K_close_10 : decode prog_1_method_12_code 10 = .ok (.iload_n 1, 1) := by decide +kernel
theorem d_K_close_11 : decode prog_1_method_12_code 11 = .ok (.iload_n 2, 1) := by decide +kernel
theorem d_K_close_12 : decode prog_1_method_12_code 12 = .ok (.invokevirtual 109, 3) := by decide +kernel
theorem d_K_close_15 : decode prog_1_method_12_code 15 = .ok (.ireturn, 1) := by decide +kernel
theorem d_K_close_16 : decode prog_1_method_12_code 16 = .ok (.aload_n 0, 1) := by decide +kernel
theorem d_K_close_17 : decode prog_1_method_12_code 17 = .ok (.getfield 44, 3) := by decide +kernel
theorem d_K_close_20 : decode prog_1_method_12_code 20 = .ok (.iload_n 1, 1) := by decide +kernel
theorem d_K_close_21 : decode prog_1_method_12_code 21 = .ok (.aaload, 1) := by decide +kernel
theorem d_K_close_22 : decode prog_1_method_12_code 22 = .ok (.iload_n 2, 1) := by decide +kernel
end
section
/-! decode rows, by program -/
theorem d_K_close_23 : decode prog_1_method_12_code 23 = .ok (.invokevirtual 148, 3) := by decide +kernel
theorem d_K_close_26 : decode prog_1_method_12_code 26 = .ok (.iconst 0, 1) := by decide +kernel
theorem d_K_close_27 : decode prog_1_method_12_code 27 = .ok (.ireturn, 1) := by decide +kernel
theorem d_K_unlink_0 : decode prog_1_method_13_code 0 = .ok (.aload_n 0, 1) := by decide +kernel
theorem d_K_unlink_1 : decode prog_1_method_13_code 1 = .ok (.iload_n 1, 1) := by decide +kernel
theorem d_K_unlink_2 : decode prog_1_method_13_code 2 = .ok (.invokevirtual 75, 3) := by decide +kernel
theorem d_K_unlink_5 : decode prog_1_method_13_code 5 = .ok (.ifCond .eq 12, 3) := by decide +kernel
theorem d_K_unlink_8 : decode prog_1_method_13_code 8 = .ok (.iload_n 2, 1) := by decide +kernel
theorem d_K_unlink_9 : decode prog_1_method_13_code 9 = .ok (.bipush 8, 2) := by decide +kernel
theorem d_K_unlink_11 : decode prog_1_method_13_code 11 = .ok (.invokestatic 53, 3) := by decide +kernel
theorem d_K_unlink_14 : decode prog_1_method_13_code 14 = .ok (.ifCond .ne 5, 3) := by decide +kernel
theorem d_K_unlink_17 : decode prog_1_method_13_code 17 = .ok (.iconst (-1), 1) := by decide +kernel
theorem d_K_unlink_18 : decode prog_1_method_13_code 18 = .ok (.ireturn, 1) := by decide +kernel
theorem d_K_unlink_19 : decode prog_1_method_13_code 19 = .ok (.aload_n 0, 1) := by decide +kernel
theorem d_K_unlink_20 : decode prog_1_method_13_code 20 = .ok (.getfield 25, 3) := by decide +kernel
theorem d_K_unlink_23 : decode prog_1_method_13_code 23 = .ok (.iload_n 2, 1) := by decide +kernel
theorem d_K_unlink_24 : decode prog_1_method_13_code 24 = .ok (.iaload, 1) := by decide +kernel
theorem d_K_unlink_25 : decode prog_1_method_13_code 25 = .ok (.ifCond .eq 14, 3) := by decide +kernel
theorem d_K_unlink_28 : decode prog_1_method_13_code 28 = .ok (.aload_n 0, 1) := by decide +kernel
theorem d_K_unlink_29 : decode prog_1_method_13_code 29 = .ok (.getfield 10, 3) := by decide +kernel
theorem d_K_unlink_32 : decode prog_1_method_13_code 32 = .ok (.iload_n 2, 1) := by decide +kernel
theorem d_K_unlink_33 : decode prog_1_method_13_code 33 = .ok (.invokevirtual 78, 3) := by decide +kernel
theorem d_K_unlink_36 : decode prog_1_method_13_code 36 = .ok (.ifCond .ne 6, 3) := by decide +kernel
theorem d_K_unlink_39 : decode prog_1_method_13_code 39 = .ok (.bipush (-4), 2) := by decide +kernel
theorem d_K_unlink_41 : decode prog_1_method_13_code 41 = .ok (.ireturn, 1) := by decide +kernel
theorem d_K_unlink_42 : decode prog_1_method_13_code 42 = .ok (.aload_n 0, 1) := by decide +kernel
theorem d_K_unlink_43 : decode prog_1_method_13_code 43 = .ok (.getfield 25, 3) := by decide +kernel
theorem d_K_unlink_46 : decode prog_1_method_13_code 46 = .ok (.iload_n 2, 1) := by decide +kernel
theorem d_K_unlink_47 : decode prog_1_method_13_code 47 = .ok (.iaload, 1) := by decide +kernel
theorem d_K_unlink_48 : decode prog_1_method_13_code 48 = .ok (.iconst 1, 1) := by decide +kernel
theorem d_K_unlink_49 : decode prog_1_method_13_code 49 = .ok (.if_icmp .ne 6, 3) := by decide +kernel
theorem d_K_unlink_52 : decode prog_1_method_13_code 52 = .ok (.bipush (-5), 2) := by decide +kernel
theorem d_K_unlink_54 : decode prog_1_method_13_code 54 = .ok (.ireturn, 1) := by decide +kernel
theorem d_K_unlink_55 : decode prog_1_method_13_code 55 = .ok (.aload_n 0, 1) := by decide +kernel
theorem d_K_unlink_56 : decode prog_1_method_13_code 56 = .ok (.iload_n 2, 1) := by decide +kernel
theorem d_K_unlink_57 : decode prog_1_method_13_code 57 = .ok (.invokevirtual 57, 3) := by decide +kernel
theorem d_K_unlink_60 : decode prog_1_method_13_code 60 = .ok (.ifCond .eq 6, 3) := by decide +kernel
theorem d_K_unlink_63 : decode prog_1_method_13_code 63 = .ok (.bipush (-9), 2) := by decide +kernel
theorem d_K_unlink_65 : decode prog_1_method_13_code 65 = .ok (.ireturn, 1) := by decide +kernel
theorem d_K_unlink_66 : decode prog_1_method_13_code 66 = .ok (.aload_n 0, 1) := by decide +kernel
theorem d_K_unlink_67 : decode prog_1_method_13_code 67 = .ok (.getfield 10, 3) := by decide +kernel
theorem d_K_unlink_70 : decode prog_1_method_13_code 70 = .ok (.iload_n 2, 1) := by decide +kernel
theorem d_K_unlink_71 : decode prog_1_method_13_code 71 = .ok (.invokevirtual 151, 3) := by decide +kernel
theorem d_K_unlink_74 : decode prog_1_method_13_code 74 = .ok (.ifCond .ne 6, 3) := by decide +kernel
theorem d_K_unlink_77 : decode prog_1_method_13_code 77 = .ok (.bipush (-8), 2) := by decide +kernel
theorem d_K_unlink_79 : decode prog_1_method_13_code 79 = .ok (.ireturn, 1) := by decide +kernel
theorem d_K_unlink_80 : decode prog_1_method_13_code 80 = .ok (.aload_n 0, 1) := by decide +kernel
theorem d_K_unlink_81 : decode prog_1_method_13_code 81 = .ok (.getfield 21, 3) := by decide +kernel
theorem d_K_unlink_84 : decode prog_1_method_13_code 84 = .ok (.iload_n 2, 1) := by decide +kernel
theorem d_K_unlink_85 : decode prog_1_method_13_code 85 = .ok (.invokevirtual 154, 3) := by decide +kernel
theorem d_K_unlink_88 : decode prog_1_method_13_code 88 = .ok (.iconst 0, 1) := by decide +kernel
theorem d_K_unlink_89 : decode prog_1_method_13_code 89 = .ok (.ireturn, 1) := by decide +kernel
theorem d_K_fork_0 : decode prog_1_method_14_code 0 = .ok (.aload_n 0, 1) := by decide +kernel
theorem d_K_fork_1 : decode prog_1_method_14_code 1 = .ok (.iload_n 1, 1) := by decide +kernel
theorem d_K_fork_2 : decode prog_1_method_14_code 2 = .ok (.invokevirtual 75, 3) := by decide +kernel
theorem d_K_fork_5 : decode prog_1_method_14_code 5 = .ok (.ifCond .ne 5, 3) := by decide +kernel
theorem d_K_fork_8 : decode prog_1_method_14_code 8 = .ok (.iconst (-1), 1) := by decide +kernel
theorem d_K_fork_9 : decode prog_1_method_14_code 9 = .ok (.ireturn, 1) := by decide +kernel
theorem d_K_fork_10 : decode prog_1_method_14_code 10 = .ok (.aload_n 0, 1) := by decide +kernel
theorem d_K_fork_11 : decode prog_1_method_14_code 11 = .ok (.invokevirtual 157, 3) := by decide +kernel
theorem d_K_fork_14 : decode prog_1_method_14_code 14 = .ok (.istore_n 2, 1) := by decide +kernel
theorem d_K_fork_15 : decode prog_1_method_14_code 15 = .ok (.iload_n 2, 1) := by decide +kernel
theorem d_K_fork_16 : decode prog_1_method_14_code 16 = .ok (.iconst (-1), 1) := by decide +kernel
theorem d_K_fork_17 : decode prog_1_method_14_code 17 = .ok (.if_icmp .ne 6, 3) := by decide +kernel
theorem d_K_fork_20 : decode prog_1_method_14_code 20 = .ok (.bipush (-2), 2) := by decide +kernel
theorem d_K_fork_22 : decode prog_1_method_14_code 22 = .ok (.ireturn, 1) := by decide +kernel
theorem d_K_fork_23 : decode prog_1_method_14_code 23 = .ok (.aload_n 0, 1) := by decide +kernel
theorem d_K_fork_24 : decode prog_1_method_14_code 24 = .ok (.getfield 44, 3) := by decide +kernel
theorem d_K_fork_27 : decode prog_1_method_14_code 27 = .ok (.iload_n 2, 1) := by decide +kernel
theorem d_K_fork_28 : decode prog_1_method_14_code 28 = .ok (.aaload, 1) := by decide +kernel
theorem d_K_fork_29 : decode prog_1_method_14_code 29 = .ok (.iload_n 1, 1) := by decide +kernel
theorem d_K_fork_30 : decode prog_1_method_14_code 30 = .ok (.invokevirtual 49, 3) := by decide +kernel
theorem d_K_fork_33 : decode prog_1_method_14_code 33 = .ok (.aload_n 0, 1) := by decide +kernel
theorem d_K_fork_34 : decode prog_1_method_14_code 34 = .ok (.getfield 44, 3) := by decide +kernel
theorem d_K_fork_37 : decode prog_1_method_14_code 37 = .ok (.iload_n 2, 1) := by decide +kernel
theorem d_K_fork_38 : decode prog_1_method_14_code 38 = .ok (.aaload, 1) := by decide +kernel
theorem d_K_fork_39 : decode prog_1_method_14_code 39 = .ok (.aload_n 0, 1) := by decide +kernel
theorem d_K_fork_40 : decode prog_1_method_14_code 40 = .ok (.getfield 44, 3) := by decide +kernel
theorem d_K_fork_43 : decode prog_1_method_14_code 43 = .ok (.iload_n 1, 1) := by decide +kernel
theorem d_K_fork_44 : decode prog_1_method_14_code 44 = .ok (.aaload, 1) := by decide +kernel
theorem d_K_fork_45 : decode prog_1_method_14_code 45 = .ok (.invokevirtual 160, 3) := by decide +kernel
theorem d_K_fork_48 : decode prog_1_method_14_code 48 = .ok (.iload_n 2, 1) := by decide +kernel
theorem d_K_fork_49 : decode prog_1_method_14_code 49 = .ok (.ireturn, 1) := by decide +kernel
theorem d_K_leastNotThere_0 : decode prog_1_method_29_code 0 = .ok (.iconst 1, 1) := by decide +kernel
theorem d_K_leastNotThere_1 : decode prog_1_method_29_code 1 = .ok (.istore_n 1, 1) := by decide +kernel
theorem d_K_leastNotThere_2 : decode prog_1_method_29_code 2 = .ok (.iload_n 1, 1) := by decide +kernel
theorem d_K_leastNotThere_3 : decode prog_1_method_29_code 3 = .ok (.bipush 6, 2) := by decide +kernel
theorem d_K_leastNotThere_5 : decode prog_1_method_29_code 5 = .ok (.if_icmp .gt 23, 3) := by decide +kernel
theorem d_K_leastNotThere_8 : decode prog_1_method_29_code 8 = .ok (.aload_n 0, 1) := by decide +kernel
theorem d_K_leastNotThere_9 : decode prog_1_method_29_code 9 = .ok (.getfield 44, 3) := by decide +kernel
theorem d_K_leastNotThere_12 : decode prog_1_method_29_code 12 = .ok (.iload_n 1, 1) := by decide +kernel
theorem d_K_leastNotThere_13 : decode prog_1_method_29_code 13 = .ok (.aaload, 1) := by decide +kernel
theorem d_K_leastNotThere_14 : decode prog_1_method_29_code 14 = .ok (.getfield 173, 3) := by decide +kernel
theorem d_K_leastNotThere_17 : decode prog_1_method_29_code 17 = .ok (.ifCond .ne 5, 3) := by decide +kernel
theorem d_K_leastNotThere_20 : decode prog_1_method_29_code 20 = .ok (.iload_n 1, 1) := by decide +kernel
theorem d_K_leastNotThere_21 : decode prog_1_method_29_code 21 = .ok (.ireturn, 1) := by decide +kernel
theorem d_K_leastNotThere_22 : decode prog_1_method_29_code 22 = .ok (.iinc 1 1, 3) := by decide +kernel
theorem d_K_leastNotThere_25 : decode prog_1_method_29_code 25 = .ok (.goto (-23), 3) := by decide +kernel
theorem d_K_leastNotThere_28 : decode prog_1_method_29_code 28 = .ok (.iconst (-1), 1) := by decide +kernel
theorem d_K_leastNotThere_29 : decode prog_1_method_29_code 29 = .ok (.ireturn, 1) := by decide +kernel
theorem d_K_exit_0 : decode prog_1_method_15_code 0 = .ok (.aload_n 0, 1) := by decide +kernel
theorem d_K_exit_1 : decode prog_1_method_15_code 1 = .ok (.iload_n 1, 1) := by decide +kernel
theorem d_K_exit_2 : decode prog_1_method_15_code 2 = .ok (.invokevirtual 75, 3) := by decide +kernel
theorem d_K_exit_5 : decode prog_1_method_15_code 5 = .ok (.ifCond .eq 17, 3) := by decide +kernel
theorem d_K_exit_8 : decode prog_1_method_15_code 8 = .ok (.iload_n 1, 1) := by decide +kernel
theorem d_K_exit_9 : decode prog_1_method_15_code 9 = .ok (.iconst 1, 1) := by decide +kernel
theorem d_K_exit_10 : decode prog_1_method_15_code 10 = .ok (.if_icmp .eq 12, 3) := by decide +kernel
theorem d_K_exit_13 : decode prog_1_method_15_code 13 = .ok (.iload_n 2, 1) := by decide +kernel
theorem d_K_exit_14 : decode prog_1_method_15_code 14 = .ok (.bipush 100, 2) := by decide +kernel
theorem d_K_exit_16 : decode prog_1_method_15_code 16 = .ok (.invokestatic 53, 3) := by decide +kernel
theorem d_K_exit_19 : decode prog_1_method_15_code 19 = .ok (.ifCond .ne 5, 3) := by decide +kernel
theorem d_K_exit_22 : decode prog_1_method_15_code 22 = .ok (.iconst (-1), 1) := by decide +kernel
theorem d_K_exit_23 : decode prog_1_method_15_code 23 = .ok (.ireturn, 1) := by decide +kernel
theorem d_K_exit_24 : decode prog_1_method_15_code 24 = .ok (.aload_n 0, 1) := by decide +kernel
theorem d_K_exit_25 : decode prog_1_method_15_code 25 = .ok (.getfield 44, 3) := by decide +kernel
theorem d_K_exit_28 : decode prog_1_method_15_code 28 = .ok (.iload_n 1, 1) := by decide +kernel
theorem d_K_exit_29 : decode prog_1_method_15_code 29 = .ok (.aaload, 1) := by decide +kernel
theorem d_K_exit_30 : decode prog_1_method_15_code 30 = .ok (.iload_n 2, 1) := by decide +kernel
theorem d_K_exit_31 : decode prog_1_method_15_code 31 = .ok (.invokevirtual 164, 3) := by decide +kernel
theorem d_K_exit_34 : decode prog_1_method_15_code 34 = .ok (.iconst 1, 1) := by decide +kernel
theorem d_K_exit_35 : decode prog_1_method_15_code 35 = .ok (.istore_n 3, 1) := by decide +kernel
theorem d_K_exit_36 : decode prog_1_method_15_code 36 = .ok (.iload_n 3, 1) := by decide +kernel
theorem d_K_exit_37 : decode prog_1_method_15_code 37 = .ok (.bipush 6, 2) := by decide +kernel
theorem d_K_exit_39 : decode prog_1_method_15_code 39 = .ok (.if_icmp .gt 32, 3) := by decide +kernel
theorem d_K_exit_42 : decode prog_1_method_15_code 42 = .ok (.aload_n 0, 1) := by decide +kernel
theorem d_K_exit_43 : decode prog_1_method_15_code 43 = .ok (.getfield 44, 3) := by decide +kernel
theorem d_K_exit_46 : decode prog_1_method_15_code 46 = .ok (.iload_n 3, 1) := by decide +kernel
theorem d_K_exit_47 : decode prog_1_method_15_code 47 = .ok (.aaload, 1) := by decide +kernel
theorem d_K_exit_48 : decode prog_1_method_15_code 48 = .ok (.iload_n 1, 1) := by decide +kernel
theorem d_K_exit_49 : decode prog_1_method_15_code 49 = .ok (.invokevirtual 167, 3) := by decide +kernel
theorem d_K_exit_52 : decode prog_1_method_15_code 52 = .ok (.ifCond .eq 13, 3) := by decide +kernel
theorem d_K_exit_55 : decode prog_1_method_15_code 55 = .ok (.aload_n 0, 1) := by decide +kernel
theorem d_K_exit_56 : decode prog_1_method_15_code 56 = .ok (.getfield 44, 3) := by decide +kernel
theorem d_K_exit_59 : decode prog_1_method_15_code 59 = .ok (.iload_n 3, 1) := by decide +kernel
theorem d_K_exit_60 : decode prog_1_method_15_code 60 = .ok (.aaload, 1) := by decide +kernel
theorem d_K_exit_61 : decode prog_1_method_15_code 61 = .ok (.iconst 1, 1) := by decide +kernel
theorem d_K_exit_62 : decode prog_1_method_15_code 62 = .ok (.putfield 170, 3) := by decide +kernel
theorem d_K_exit_65 : decode prog_1_method_15_code 65 = .ok (.iinc 3 1, 3) := by decide +kernel
theorem d_K_exit_68 : decode prog_1_method_15_code 68 = .ok (.goto (-32), 3) := by decide +kernel
theorem d_K_exit_71 : decode prog_1_method_15_code 71 = .ok (.iconst 0, 1) := by decide +kernel
theorem d_K_exit_72 : decode prog_1_method_15_code 72 = .ok (.ireturn, 1) := by decide +kernel
theorem d_K_wait_0 : decode prog_1_method_16_code 0 = .ok (.aload_n 0, 1) := by decide +kernel
theorem d_K_wait_1 : decode prog_1_method_16_code 1 = .ok (.iload_n 1, 1) := by decide +kernel
theorem d_K_wait_2 : decode prog_1_method_16_code 2 = .ok (.invokevirtual 75, 3) := by decide +kernel
theorem d_K_wait_5 : decode prog_1_method_16_code 5 = .ok (.ifCond .ne 5, 3) := by decide +kernel
theorem d_K_wait_8 : decode prog_1_method_16_code 8 = .ok (.iconst (-1), 1) := by decide +kernel
theorem d_K_wait_9 : decode prog_1_method_16_code 9 = .ok (.ireturn, 1) := by decide +kernel
theorem d_K_wait_10 : decode prog_1_method_16_code 10 = .ok (.iconst 0, 1) := by decide +kernel
theorem d_K_wait_11 : decode prog_1_method_16_code 11 = .ok (.istore_n 2, 1) := by decide +kernel
theorem d_K_wait_12 : decode prog_1_method_16_code 12 = .ok (.iconst 1, 1) := by decide +kernel
theorem d_K_wait_13 : decode prog_1_method_16_code 13 = .ok (.istore_n 3, 1) := by decide +kernel
theorem d_K_wait_14 : decode prog_1_method_16_code 14 = .ok (.iload_n 3, 1) := by decide +kernel
theorem d_K_wait_15 : decode prog_1_method_16_code 15 = .ok (.bipush 6, 2) := by decide +kernel
theorem d_K_wait_17 : decode prog_1_method_16_code 17 = .ok (.if_icmp .gt 53, 3) := by decide +kernel
theorem d_K_wait_20 : decode prog_1_method_16_code 20 = .ok (.aload_n 0, 1) := by decide +kernel
theorem d_K_wait_21 : decode prog_1_method_16_code 21 = .ok (.getfield 44, 3) := by decide +kernel
theorem d_K_wait_24 : decode prog_1_method_16_code 24 = .ok (.iload_n 3, 1) := by decide +kernel
theorem d_K_wait_25 : decode prog_1_method_16_code 25 = .ok (.aaload, 1) := by decide +kernel
theorem d_K_wait_26 : decode prog_1_method_16_code 26 = .ok (.astore 4, 2) := by decide +kernel
theorem d_K_wait_28 : decode prog_1_method_16_code 28 = .ok (.aload 4, 2) := by decide +kernel
theorem d_K_wait_30 : decode prog_1_method_16_code 30 = .ok (.iload_n 1, 1) := by decide +kernel
theorem d_K_wait_31 : decode prog_1_method_16_code 31 = .ok (.invokevirtual 167, 3) := by decide +kernel
theorem d_K_wait_34 : decode prog_1_method_16_code 34 = .ok (.ifCond .eq 30, 3) := by decide +kernel
theorem d_K_wait_37 : decode prog_1_method_16_code 37 = .ok (.aload 4, 2) := by decide +kernel
theorem d_K_wait_39 : decode prog_1_method_16_code 39 = .ok (.getfield 173, 3) := by decide +kernel
theorem d_K_wait_42 : decode prog_1_method_16_code 42 = .ok (.iconst 2, 1) := by decide +kernel
theorem d_K_wait_43 : decode prog_1_method_16_code 43 = .ok (.if_icmp .ne 19, 3) := by decide +kernel
theorem d_K_wait_46 : decode prog_1_method_16_code 46 = .ok (.aload 4, 2) := by decide +kernel
theorem d_K_wait_48 : decode prog_1_method_16_code 48 = .ok (.invokevirtual 176, 3) := by decide +kernel
theorem d_K_wait_51 : decode prog_1_method_16_code 51 = .ok (.iload_n 3, 1) := by decide +kernel
theorem d_K_wait_52 : decode prog_1_method_16_code 52 = .ok (.bipush 8, 2) := by decide +kernel
theorem d_K_wait_54 : decode prog_1_method_16_code 54 = .ok (.aload 4, 2) := by decide +kernel
theorem d_K_wait_56 : decode prog_1_method_16_code 56 = .ok (.getfield 179, 3) := by decide +kernel
theorem d_K_wait_59 : decode prog_1_method_16_code 59 = .ok (.imul, 1) := by decide +kernel
theorem d_K_wait_60 : decode prog_1_method_16_code 60 = .ok (.iadd, 1) := by decide +kernel
theorem d_K_wait_61 : decode prog_1_method_16_code 61 = .ok (.ireturn, 1) := by decide +kernel
theorem d_K_wait_62 : decode prog_1_method_16_code 62 = .ok (.iconst 1, 1) := by decide +kernel
theorem d_K_wait_63 : decode prog_1_method_16_code 63 = .ok (.istore_n 2, 1) := by decide +kernel
theorem d_K_wait_64 : decode prog_1_method_16_code 64 = .ok (.iinc 3 1, 3) := by decide +kernel
theorem d_K_wait_67 : decode prog_1_method_16_code 67 = .ok (.goto (-53), 3) := by decide +kernel
theorem d_K_wait_70 : decode prog_1_method_16_code 70 = .ok (.iload_n 2, 1) := by decide +kernel
theorem d_K_wait_71 : decode prog_1_method_16_code 71 = .ok (.ifCond .eq 8, 3) := by decide +kernel
theorem d_K_wait_74 : decode prog_1_method_16_code 74 = .ok (.bipush (-6), 2) := by decide +kernel
theorem d_K_wait_76 : decode prog_1_method_16_code 76 = .ok (.goto 5, 3) := by decide +kernel
theorem d_K_wait_79 : decode prog_1_method_16_code 79 = .ok (.bipush (-9), 2) := by decide +kernel
theorem d_K_wait_81 : decode prog_1_method_16_code 81 = .ok (.ireturn, 1) := by decide +kernel
theorem d_K_crash_0 : decode prog_1_method_17_code 0 = .ok (.iconst 1, 1) := by decide +kernel
theorem d_K_crash_1 : decode prog_1_method_17_code 1 = .ok (.istore_n 1, 1) := by decide +kernel
theorem d_K_crash_2 : decode prog_1_method_17_code 2 = .ok (.iload_n 1, 1) := by decide +kernel
theorem d_K_crash_3 : decode prog_1_method_17_code 3 = .ok (.bipush 6, 2) := by decide +kernel
theorem d_K_crash_5 : decode prog_1_method_17_code 5 = .ok (.if_icmp .gt 18, 3) := by decide +kernel
theorem d_K_crash_8 : decode prog_1_method_17_code 8 = .ok (.aload_n 0, 1) := by decide +kernel
theorem d_K_crash_9 : decode prog_1_method_17_code 9 = .ok (.getfield 44, 3) := by decide +kernel
theorem d_K_crash_12 : decode prog_1_method_17_code 12 = .ok (.iload_n 1, 1) := by decide +kernel
theorem d_K_crash_13 : decode prog_1_method_17_code 13 = .ok (.aaload, 1) := by decide +kernel
theorem d_K_crash_14 : decode prog_1_method_17_code 14 = .ok (.invokevirtual 176, 3) := by decide +kernel
theorem d_K_crash_17 : decode prog_1_method_17_code 17 = .ok (.iinc 1 1, 3) := by decide +kernel
theorem d_K_crash_20 : decode prog_1_method_17_code 20 = .ok (.goto (-18), 3) := by decide +kernel
theorem d_K_crash_23 : decode prog_1_method_17_code 23 = .ok (.aload_n 0, 1) := by decide +kernel
theorem d_K_crash_24 : decode prog_1_method_17_code 24 = .ok (.getfield 44, 3) := by decide +kernel
theorem d_K_crash_27 : decode prog_1_method_17_code 27 = .ok (.iconst 1, 1) := by decide +kernel
theorem d_K_crash_28 : decode prog_1_method_17_code 28 = .ok (.aaload, 1) := by decide +kernel
theorem d_K_crash_29 : decode prog_1_method_17_code 29 = .ok (.iconst (-1), 1) := by decide +kernel
theorem d_K_crash_30 : decode prog_1_method_17_code 30 = .ok (.invokevirtual 49, 3) := by decide +kernel
theorem d_K_crash_33 : decode prog_1_method_17_code 33 = .ok (.aload_n 0, 1) := by decide +kernel
theorem d_K_crash_34 : decode prog_1_method_17_code 34 = .ok (.getfield 21, 3) := by decide +kernel
theorem d_K_crash_37 : decode prog_1_method_17_code 37 = .ok (.invokevirtual 182, 3) := by decide +kernel
theorem d_K_crash_40 : decode prog_1_method_17_code 40 = .ok (.iconst 0, 1) := by decide +kernel
theorem d_K_crash_41 : decode prog_1_method_17_code 41 = .ok (.ireturn, 1) := by decide +kernel
theorem d_K_host_0 : decode prog_1_method_18_code 0 = .ok (.iload_n 1, 1) := by decide +kernel
theorem d_K_host_1 : decode prog_1_method_18_code 1 = .ok (.bipush 8, 2) := by decide +kernel
theorem d_K_host_3 : decode prog_1_method_18_code 3 = .ok (.invokestatic 53, 3) := by decide +kernel
theorem d_K_host_6 : decode prog_1_method_18_code 6 = .ok (.ifCond .ne 5, 3) := by decide +kernel
theorem d_K_host_9 : decode prog_1_method_18_code 9 = .ok (.iconst (-1), 1) := by decide +kernel
theorem d_K_host_10 : decode prog_1_method_18_code 10 = .ok (.ireturn, 1) := by decide +kernel
theorem d_K_host_11 : decode prog_1_method_18_code 11 = .ok (.aload_n 0, 1) := by decide +kernel
theorem d_K_host_12 : decode prog_1_method_18_code 12 = .ok (.getfield 10, 3) := by decide +kernel
theorem d_K_host_15 : decode prog_1_method_18_code 15 = .ok (.iload_n 1, 1) := by decide +kernel
theorem d_K_host_16 : decode prog_1_method_18_code 16 = .ok (.invokevirtual 78, 3) := by decide +kernel
theorem d_K_host_19 : decode prog_1_method_18_code 19 = .ok (.ifCond .ne 6, 3) := by decide +kernel
theorem d_K_host_22 : decode prog_1_method_18_code 22 = .ok (.bipush (-4), 2) := by decide +kernel
theorem d_K_host_24 : decode prog_1_method_18_code 24 = .ok (.ireturn, 1) := by decide +kernel
theorem d_K_host_25 : decode prog_1_method_18_code 25 = .ok (.iload_n 2, 1) := by decide +kernel
theorem d_K_host_26 : decode prog_1_method_18_code 26 = .ok (.aload_n 0, 1) := by decide +kernel
theorem d_K_host_27 : decode prog_1_method_18_code 27 = .ok (.getfield 10, 3) := by decide +kernel
theorem d_K_host_30 : decode prog_1_method_18_code 30 = .ok (.iload_n 1, 1) := by decide +kernel
theorem d_K_host_31 : decode prog_1_method_18_code 31 = .ok (.invokevirtual 185, 3) := by decide +kernel
theorem d_K_host_34 : decode prog_1_method_18_code 34 = .ok (.invokestatic 53, 3) := by decide +kernel
theorem d_K_host_37 : decode prog_1_method_18_code 37 = .ok (.ifCond .eq 15, 3) := by decide +kernel
theorem d_K_host_40 : decode prog_1_method_18_code 40 = .ok (.aload_n 0, 1) := by decide +kernel
theorem d_K_host_41 : decode prog_1_method_18_code 41 = .ok (.getfield 10, 3) := by decide +kernel
theorem d_K_host_44 : decode prog_1_method_18_code 44 = .ok (.iload_n 1, 1) := by decide +kernel
theorem d_K_host_45 : decode prog_1_method_18_code 45 = .ok (.iload_n 2, 1) := by decide +kernel
theorem d_K_host_46 : decode prog_1_method_18_code 46 = .ok (.invokevirtual 186, 3) := by decide +kernel
theorem d_K_host_49 : decode prog_1_method_18_code 49 = .ok (.goto 5, 3) := by decide +kernel
theorem d_K_host_52 : decode prog_1_method_18_code 52 = .ok (.bipush (-7), 2) := by decide +kernel
theorem d_K_host_54 : decode prog_1_method_18_code 54 = .ok (.ireturn, 1) := by decide +kernel
theorem d_K_log_0 : decode prog_1_method_19_code 0 = .ok (.iload_n 1, 1) := by decide +kernel
theorem d_K_log_1 : decode prog_1_method_19_code 1 = .ok (.aload_n 0, 1) := by decide +kernel
theorem d_K_log_2 : decode prog_1_method_19_code 2 = .ok (.getfield 10, 3) := by decide +kernel
theorem d_K_log_5 : decode prog_1_method_19_code 5 = .ok (.invokevirtual 189, 3) := by decide +kernel
theorem d_K_log_8 : decode prog_1_method_19_code 8 = .ok (.bipush 16, 2) := by decide +kernel
theorem d_K_log_10 : decode prog_1_method_19_code 10 = .ok (.invokestatic 192, 3) := by decide +kernel
theorem d_K_log_13 : decode prog_1_method_19_code 13 = .ok (.invokestatic 53, 3) := by decide +kernel
theorem d_K_log_16 : decode prog_1_method_19_code 16 = .ok (.ifCond .eq 14, 3) := by decide +kernel
theorem d_K_log_19 : decode prog_1_method_19_code 19 = .ok (.aload_n 0, 1) := by decide +kernel
theorem d_K_log_20 : decode prog_1_method_19_code 20 = .ok (.getfield 10, 3) := by decide +kernel
theorem d_K_log_23 : decode prog_1_method_19_code 23 = .ok (.iload_n 1, 1) := by decide +kernel
theorem d_K_log_24 : decode prog_1_method_19_code 24 = .ok (.invokevirtual 197, 3) := by decide +kernel
theorem d_K_log_27 : decode prog_1_method_19_code 27 = .ok (.goto 4, 3) := by decide +kernel
theorem d_K_log_30 : decode prog_1_method_19_code 30 = .ok (.iconst (-1), 1) := by decide +kernel
theorem d_K_log_31 : decode prog_1_method_19_code 31 = .ok (.ireturn, 1) := by decide +kernel
theorem d_K_cached_0 : decode prog_1_method_20_code 0 = .ok (.iload_n 1, 1) := by decide +kernel
theorem d_K_cached_1 : decode prog_1_method_20_code 1 = .ok (.aload_n 0, 1) := by decide +kernel
theorem d_K_cached_2 : decode prog_1_method_20_code 2 = .ok (.getfield 21, 3) := by decide +kernel
theorem d_K_cached_5 : decode prog_1_method_20_code 5 = .ok (.invokevirtual 200, 3) := by decide +kernel
theorem d_K_cached_8 : decode prog_1_method_20_code 8 = .ok (.invokestatic 53, 3) := by decide +kernel
theorem d_K_cached_11 : decode prog_1_method_20_code 11 = .ok (.ifCond .eq 17, 3) := by decide +kernel
theorem d_K_cached_14 : decode prog_1_method_20_code 14 = .ok (.aload_n 0, 1) := by decide +kernel
theorem d_K_cached_15 : decode prog_1_method_20_code 15 = .ok (.getfield 21, 3) := by decide +kernel
theorem d_K_cached_18 : decode prog_1_method_20_code 18 = .ok (.iload_n 1, 1) := by decide +kernel
theorem d_K_cached_19 : decode prog_1_method_20_code 19 = .ok (.invokevirtual 203, 3) := by decide +kernel
theorem d_K_cached_22 : decode prog_1_method_20_code 22 = .ok (.invokevirtual 207, 3) := by decide +kernel
theorem d_K_cached_25 : decode prog_1_method_20_code 25 = .ok (.goto 4, 3) := by decide +kernel
theorem d_K_cached_28 : decode prog_1_method_20_code 28 = .ok (.iconst (-1), 1) := by decide +kernel
theorem d_K_cached_29 : decode prog_1_method_20_code 29 = .ok (.ireturn, 1) := by decide +kernel
theorem d_K_count_0 : decode prog_1_method_21_code 0 = .ok (.iload_n 1, 1) := by decide +kernel
theorem d_K_count_1 : decode prog_1_method_21_code 1 = .ok (.tableswitch 69 0 4 #[35, 43, 48, 53, 61], 35) := by decide +kernel
theorem d_K_count_36 : decode prog_1_method_21_code 36 = .ok (.aload_n 0, 1) := by decide +kernel
theorem d_K_count_37 : decode prog_1_method_21_code 37 = .ok (.getfield 10, 3) := by decide +kernel
theorem d_K_count_40 : decode prog_1_method_21_code 40 = .ok (.invokevirtual 189, 3) := by decide +kernel
theorem d_K_count_43 : decode prog_1_method_21_code 43 = .ok (.ireturn, 1) := by decide +kernel
theorem d_K_count_44 : decode prog_1_method_21_code 44 = .ok (.aload_n 0, 1) := by decide +kernel
theorem d_K_count_45 : decode prog_1_method_21_code 45 = .ok (.invokevirtual 212, 3) := by decide +kernel
theorem d_K_count_48 : decode prog_1_method_21_code 48 = .ok (.ireturn, 1) := by decide +kernel
theorem d_K_count_49 : decode prog_1_method_21_code 49 = .ok (.aload_n 0, 1) := by decide +kernel
theorem d_K_count_50 : decode prog_1_method_21_code 50 = .ok (.invokevirtual 215, 3) := by decide +kernel
theorem d_K_count_53 : decode prog_1_method_21_code 53 = .ok (.ireturn, 1) := by decide +kernel
theorem d_K_count_54 : decode prog_1_method_21_code 54 = .ok (.aload_n 0, 1) := by decide +kernel
theorem d_K_count_55 : decode prog_1_method_21_code 55 = .ok (.getfield 21, 3) := by decide +kernel
theorem d_K_count_58 : decode prog_1_method_21_code 58 = .ok (.invokevirtual 218, 3) := by decide +kernel
theorem d_K_count_61 : decode prog_1_method_21_code 61 = .ok (.ireturn, 1) := by decide +kernel
theorem d_K_count_62 : decode prog_1_method_21_code 62 = .ok (.aload_n 0, 1) := by decide +kernel
theorem d_K_count_63 : decode prog_1_method_21_code 63 = .ok (.getfield 10, 3) := by decide +kernel
theorem d_K_count_66 : decode prog_1_method_21_code 66 = .ok (.invokevirtual 221, 3) := by decide +kernel
theorem d_K_count_69 : decode prog_1_method_21_code 69 = .ok (.ireturn, 1) := by decide +kernel
theorem d_K_count_70 : decode prog_1_method_21_code 70 = .ok (.iconst (-1), 1) := by decide +kernel
theorem d_K_count_71 : decode prog_1_method_21_code 71 = .ok (.ireturn, 1) := by decide +kernel
theorem d_K_openingsThere_0 : decode prog_1_method_28_code 0 = .ok (.iconst 0, 1) := by decide +kernel
theorem d_K_openingsThere_1 : decode prog_1_method_28_code 1 = .ok (.istore_n 1, 1) := by decide +kernel
theorem d_K_openingsThere_2 : decode prog_1_method_28_code 2 = .ok (.iconst 0, 1) := by decide +kernel
theorem d_K_openingsThere_3 : decode prog_1_method_28_code 3 = .ok (.istore_n 2, 1) := by decide +kernel
theorem d_K_openingsThere_4 : decode prog_1_method_28_code 4 = .ok (.iload_n 2, 1) := by decide +kernel
theorem d_K_openingsThere_5 : decode prog_1_method_28_code 5 = .ok (.bipush 16, 2) := by decide +kernel
theorem d_K_openingsThere_7 : decode prog_1_method_28_code 7 = .ok (.if_icmp .ge 24, 3) := by decide +kernel
theorem d_K_openingsThere_10 : decode prog_1_method_28_code 10 = .ok (.aload_n 0, 1) := by decide +kernel
theorem d_K_openingsThere_11 : decode prog_1_method_28_code 11 = .ok (.getfield 37, 3) := by decide +kernel
theorem d_K_openingsThere_14 : decode prog_1_method_28_code 14 = .ok (.iload_n 2, 1) := by decide +kernel
theorem d_K_openingsThere_15 : decode prog_1_method_28_code 15 = .ok (.aaload, 1) := by decide +kernel
theorem d_K_openingsThere_16 : decode prog_1_method_28_code 16 = .ok (.getfield 230, 3) := by decide +kernel
theorem d_K_openingsThere_19 : decode prog_1_method_28_code 19 = .ok (.ifCond .le 6, 3) := by decide +kernel
theorem d_K_openingsThere_22 : decode prog_1_method_28_code 22 = .ok (.iinc 1 1, 3) := by decide +kernel
theorem d_K_openingsThere_25 : decode prog_1_method_28_code 25 = .ok (.iinc 2 1, 3) := by decide +kernel
theorem d_K_openingsThere_28 : decode prog_1_method_28_code 28 = .ok (.goto (-24), 3) := by decide +kernel
theorem d_K_openingsThere_31 : decode prog_1_method_28_code 31 = .ok (.iload_n 1, 1) := by decide +kernel
theorem d_K_openingsThere_32 : decode prog_1_method_28_code 32 = .ok (.ireturn, 1) := by decide +kernel
theorem d_K_tasksThere_0 : decode prog_1_method_30_code 0 = .ok (.iconst 0, 1) := by decide +kernel
theorem d_K_tasksThere_1 : decode prog_1_method_30_code 1 = .ok (.istore_n 1, 1) := by decide +kernel
theorem d_K_tasksThere_2 : decode prog_1_method_30_code 2 = .ok (.iconst 1, 1) := by decide +kernel
theorem d_K_tasksThere_3 : decode prog_1_method_30_code 3 = .ok (.istore_n 2, 1) := by decide +kernel
theorem d_K_tasksThere_4 : decode prog_1_method_30_code 4 = .ok (.iload_n 2, 1) := by decide +kernel
theorem d_K_tasksThere_5 : decode prog_1_method_30_code 5 = .ok (.bipush 6, 2) := by decide +kernel
theorem d_K_tasksThere_7 : decode prog_1_method_30_code 7 = .ok (.if_icmp .gt 24, 3) := by decide +kernel
theorem d_K_tasksThere_10 : decode prog_1_method_30_code 10 = .ok (.aload_n 0, 1) := by decide +kernel
theorem d_K_tasksThere_11 : decode prog_1_method_30_code 11 = .ok (.getfield 44, 3) := by decide +kernel
theorem d_K_tasksThere_14 : decode prog_1_method_30_code 14 = .ok (.iload_n 2, 1) := by decide +kernel
theorem d_K_tasksThere_15 : decode prog_1_method_30_code 15 = .ok (.aaload, 1) := by decide +kernel
theorem d_K_tasksThere_16 : decode prog_1_method_30_code 16 = .ok (.getfield 173, 3) := by decide +kernel
theorem d_K_tasksThere_19 : decode prog_1_method_30_code 19 = .ok (.ifCond .eq 6, 3) := by decide +kernel
theorem d_K_tasksThere_22 : decode prog_1_method_30_code 22 = .ok (.iinc 1 1, 3) := by decide +kernel
theorem d_K_tasksThere_25 : decode prog_1_method_30_code 25 = .ok (.iinc 2 1, 3) := by decide +kernel
theorem d_K_tasksThere_28 : decode prog_1_method_30_code 28 = .ok (.goto (-24), 3) := by decide +kernel
theorem d_K_tasksThere_31 : decode prog_1_method_30_code 31 = .ok (.iload_n 1, 1) := by decide +kernel
theorem d_K_tasksThere_32 : decode prog_1_method_30_code 32 = .ok (.ireturn, 1) := by decide +kernel
end
section
/-! decode rows, by program -/
theorem d_law_0 : decode code 0 = .ok (.new 7, 3) := by decide +kernel
theorem d_law_3 : decode code 3 = .ok (.dup, 1) := by decide +kernel
theorem d_law_4 : decode code 4 = .ok (.invokespecial 9, 3) := by decide +kernel
theorem d_law_7 : decode code 7 = .ok (.astore_n 1, 1) := by decide +kernel
theorem d_law_8 : decode code 8 = .ok (.new 10, 3) := by decide +kernel
theorem d_law_11 : decode code 11 = .ok (.dup, 1) := by decide +kernel
theorem d_law_12 : decode code 12 = .ok (.invokespecial 12, 3) := by decide +kernel
theorem d_law_15 : decode code 15 = .ok (.astore_n 2, 1) := by decide +kernel
theorem d_law_16 : decode code 16 = .ok (.iconst 0, 1) := by decide +kernel
theorem d_law_17 : decode code 17 = .ok (.istore_n 3, 1) := by decide +kernel
theorem d_law_18 : decode code 18 = .ok (.iload_n 3, 1) := by decide +kernel
theorem d_law_19 : decode code 19 = .ok (.aload_n 0, 1) := by decide +kernel
theorem d_law_20 : decode code 20 = .ok (.arraylength, 1) := by decide +kernel
theorem d_law_21 : decode code 21 = .ok (.iconst 4, 1) := by decide +kernel
theorem d_law_22 : decode code 22 = .ok (.isub, 1) := by decide +kernel
theorem d_law_23 : decode code 23 = .ok (.if_icmp .gt 721, 3) := by decide +kernel
theorem d_law_26 : decode code 26 = .ok (.aload_n 0, 1) := by decide +kernel
theorem d_law_27 : decode code 27 = .ok (.iload_n 3, 1) := by decide +kernel
theorem d_law_28 : decode code 28 = .ok (.iaload, 1) := by decide +kernel
theorem d_law_29 : decode code 29 = .ok (.bipush 31, 2) := by decide +kernel
theorem d_law_31 : decode code 31 = .ok (.iand, 1) := by decide +kernel
theorem d_law_32 : decode code 32 = .ok (.tableswitch 706 0 19 #[96, 139, 172, 195, 238, 261, 294, 337, 380, 413, 446, 479, 512, 535, 568, 591, 604, 637, 660, 683], 96) := by decide +kernel
theorem d_law_128 : decode code 128 = .ok (.aload_n 1, 1) := by decide +kernel
theorem d_law_129 : decode code 129 = .ok (.aload_n 0, 1) := by decide +kernel
theorem d_law_130 : decode code 130 = .ok (.iload_n 3, 1) := by decide +kernel
theorem d_law_131 : decode code 131 = .ok (.iconst 1, 1) := by decide +kernel
theorem d_law_132 : decode code 132 = .ok (.iadd, 1) := by decide +kernel
theorem d_law_133 : decode code 133 = .ok (.iaload, 1) := by decide +kernel
theorem d_law_134 : decode code 134 = .ok (.aload_n 0, 1) := by decide +kernel
theorem d_law_135 : decode code 135 = .ok (.iload_n 3, 1) := by decide +kernel
theorem d_law_136 : decode code 136 = .ok (.iconst 2, 1) := by decide +kernel
theorem d_law_137 : decode code 137 = .ok (.iadd, 1) := by decide +kernel
theorem d_law_138 : decode code 138 = .ok (.iaload, 1) := by decide +kernel
theorem d_law_139 : decode code 139 = .ok (.aload_n 0, 1) := by decide +kernel
theorem d_law_140 : decode code 140 = .ok (.iload_n 3, 1) := by decide +kernel
theorem d_law_141 : decode code 141 = .ok (.iconst 3, 1) := by decide +kernel
theorem d_law_142 : decode code 142 = .ok (.iadd, 1) := by decide +kernel
theorem d_law_143 : decode code 143 = .ok (.iaload, 1) := by decide +kernel
theorem d_law_144 : decode code 144 = .ok (.invokevirtual 13, 3) := by decide +kernel
theorem d_law_147 : decode code 147 = .ok (.aload_n 2, 1) := by decide +kernel
theorem d_law_148 : decode code 148 = .ok (.aload_n 0, 1) := by decide +kernel
theorem d_law_149 : decode code 149 = .ok (.iload_n 3, 1) := by decide +kernel
theorem d_law_150 : decode code 150 = .ok (.iconst 1, 1) := by decide +kernel
theorem d_law_151 : decode code 151 = .ok (.iadd, 1) := by decide +kernel
theorem d_law_152 : decode code 152 = .ok (.iaload, 1) := by decide +kernel
theorem d_law_153 : decode code 153 = .ok (.aload_n 0, 1) := by decide +kernel
theorem d_law_154 : decode code 154 = .ok (.iload_n 3, 1) := by decide +kernel
theorem d_law_155 : decode code 155 = .ok (.iconst 2, 1) := by decide +kernel
theorem d_law_156 : decode code 156 = .ok (.iadd, 1) := by decide +kernel
theorem d_law_157 : decode code 157 = .ok (.iaload, 1) := by decide +kernel
theorem d_law_158 : decode code 158 = .ok (.aload_n 0, 1) := by decide +kernel
theorem d_law_159 : decode code 159 = .ok (.iload_n 3, 1) := by decide +kernel
theorem d_law_160 : decode code 160 = .ok (.iconst 3, 1) := by decide +kernel
theorem d_law_161 : decode code 161 = .ok (.iadd, 1) := by decide +kernel
theorem d_law_162 : decode code 162 = .ok (.iaload, 1) := by decide +kernel
theorem d_law_163 : decode code 163 = .ok (.invokevirtual 17, 3) := by decide +kernel
theorem d_law_166 : decode code 166 = .ok (.if_icmp .eq 572, 3) := by decide +kernel
theorem d_law_169 : decode code 169 = .ok (.iconst 0, 1) := by decide +kernel
theorem d_law_170 : decode code 170 = .ok (.ireturn, 1) := by decide +kernel
theorem d_law_171 : decode code 171 = .ok (.aload_n 1, 1) := by decide +kernel
theorem d_law_172 : decode code 172 = .ok (.aload_n 0, 1) := by decide +kernel
theorem d_law_173 : decode code 173 = .ok (.iload_n 3, 1) := by decide +kernel
theorem d_law_174 : decode code 174 = .ok (.iconst 1, 1) := by decide +kernel
theorem d_law_175 : decode code 175 = .ok (.iadd, 1) := by decide +kernel
theorem d_law_176 : decode code 176 = .ok (.iaload, 1) := by decide +kernel
theorem d_law_177 : decode code 177 = .ok (.aload_n 0, 1) := by decide +kernel
theorem d_law_178 : decode code 178 = .ok (.iload_n 3, 1) := by decide +kernel
theorem d_law_179 : decode code 179 = .ok (.iconst 2, 1) := by decide +kernel
theorem d_law_180 : decode code 180 = .ok (.iadd, 1) := by decide +kernel
theorem d_law_181 : decode code 181 = .ok (.iaload, 1) := by decide +kernel
theorem d_law_182 : decode code 182 = .ok (.invokevirtual 18, 3) := by decide +kernel
theorem d_law_185 : decode code 185 = .ok (.aload_n 2, 1) := by decide +kernel
theorem d_law_186 : decode code 186 = .ok (.aload_n 0, 1) := by decide +kernel
theorem d_law_187 : decode code 187 = .ok (.iload_n 3, 1) := by decide +kernel
theorem d_law_188 : decode code 188 = .ok (.iconst 1, 1) := by decide +kernel
theorem d_law_189 : decode code 189 = .ok (.iadd, 1) := by decide +kernel
theorem d_law_190 : decode code 190 = .ok (.iaload, 1) := by decide +kernel
theorem d_law_191 : decode code 191 = .ok (.aload_n 0, 1) := by decide +kernel
theorem d_law_192 : decode code 192 = .ok (.iload_n 3, 1) := by decide +kernel
theorem d_law_193 : decode code 193 = .ok (.iconst 2, 1) := by decide +kernel
theorem d_law_194 : decode code 194 = .ok (.iadd, 1) := by decide +kernel
theorem d_law_195 : decode code 195 = .ok (.iaload, 1) := by decide +kernel
theorem d_law_196 : decode code 196 = .ok (.invokevirtual 22, 3) := by decide +kernel
theorem d_law_199 : decode code 199 = .ok (.if_icmp .eq 539, 3) := by decide +kernel
theorem d_law_202 : decode code 202 = .ok (.iconst 0, 1) := by decide +kernel
theorem d_law_203 : decode code 203 = .ok (.ireturn, 1) := by decide +kernel
theorem d_law_204 : decode code 204 = .ok (.aload_n 1, 1) := by decide +kernel
theorem d_law_205 : decode code 205 = .ok (.aload_n 0, 1) := by decide +kernel
theorem d_law_206 : decode code 206 = .ok (.iload_n 3, 1) := by decide +kernel
theorem d_law_207 : decode code 207 = .ok (.iconst 1, 1) := by decide +kernel
theorem d_law_208 : decode code 208 = .ok (.iadd, 1) := by decide +kernel
theorem d_law_209 : decode code 209 = .ok (.iaload, 1) := by decide +kernel
theorem d_law_210 : decode code 210 = .ok (.invokevirtual 23, 3) := by decide +kernel
theorem d_law_213 : decode code 213 = .ok (.aload_n 2, 1) := by decide +kernel
theorem d_law_214 : decode code 214 = .ok (.aload_n 0, 1) := by decide +kernel
theorem d_law_215 : decode code 215 = .ok (.iload_n 3, 1) := by decide +kernel
theorem d_law_216 : decode code 216 = .ok (.iconst 1, 1) := by decide +kernel
theorem d_law_217 : decode code 217 = .ok (.iadd, 1) := by decide +kernel
theorem d_law_218 : decode code 218 = .ok (.iaload, 1) := by decide +kernel
theorem d_law_219 : decode code 219 = .ok (.invokevirtual 27, 3) := by decide +kernel
theorem d_law_222 : decode code 222 = .ok (.if_icmp .eq 516, 3) := by decide +kernel
theorem d_law_225 : decode code 225 = .ok (.iconst 0, 1) := by decide +kernel
theorem d_law_226 : decode code 226 = .ok (.ireturn, 1) := by decide +kernel
theorem d_law_227 : decode code 227 = .ok (.aload_n 1, 1) := by decide +kernel
theorem d_law_228 : decode code 228 = .ok (.aload_n 0, 1) := by decide +kernel
theorem d_law_229 : decode code 229 = .ok (.iload_n 3, 1) := by decide +kernel
theorem d_law_230 : decode code 230 = .ok (.iconst 1, 1) := by decide +kernel
theorem d_law_231 : decode code 231 = .ok (.iadd, 1) := by decide +kernel
theorem d_law_232 : decode code 232 = .ok (.iaload, 1) := by decide +kernel
theorem d_law_233 : decode code 233 = .ok (.aload_n 0, 1) := by decide +kernel
theorem d_law_234 : decode code 234 = .ok (.iload_n 3, 1) := by decide +kernel
theorem d_law_235 : decode code 235 = .ok (.iconst 2, 1) := by decide +kernel
theorem d_law_236 : decode code 236 = .ok (.iadd, 1) := by decide +kernel
theorem d_law_237 : decode code 237 = .ok (.iaload, 1) := by decide +kernel
theorem d_law_238 : decode code 238 = .ok (.aload_n 0, 1) := by decide +kernel
theorem d_law_239 : decode code 239 = .ok (.iload_n 3, 1) := by decide +kernel
theorem d_law_240 : decode code 240 = .ok (.iconst 3, 1) := by decide +kernel
theorem d_law_241 : decode code 241 = .ok (.iadd, 1) := by decide +kernel
theorem d_law_242 : decode code 242 = .ok (.iaload, 1) := by decide +kernel
theorem d_law_243 : decode code 243 = .ok (.invokevirtual 28, 3) := by decide +kernel
theorem d_law_246 : decode code 246 = .ok (.aload_n 2, 1) := by decide +kernel
theorem d_law_247 : decode code 247 = .ok (.aload_n 0, 1) := by decide +kernel
theorem d_law_248 : decode code 248 = .ok (.iload_n 3, 1) := by decide +kernel
theorem d_law_249 : decode code 249 = .ok (.iconst 1, 1) := by decide +kernel
theorem d_law_250 : decode code 250 = .ok (.iadd, 1) := by decide +kernel
theorem d_law_251 : decode code 251 = .ok (.iaload, 1) := by decide +kernel
theorem d_law_252 : decode code 252 = .ok (.aload_n 0, 1) := by decide +kernel
theorem d_law_253 : decode code 253 = .ok (.iload_n 3, 1) := by decide +kernel
theorem d_law_254 : decode code 254 = .ok (.iconst 2, 1) := by decide +kernel
theorem d_law_255 : decode code 255 = .ok (.iadd, 1) := by decide +kernel
theorem d_law_256 : decode code 256 = .ok (.iaload, 1) := by decide +kernel
theorem d_law_257 : decode code 257 = .ok (.aload_n 0, 1) := by decide +kernel
theorem d_law_258 : decode code 258 = .ok (.iload_n 3, 1) := by decide +kernel
theorem d_law_259 : decode code 259 = .ok (.iconst 3, 1) := by decide +kernel
theorem d_law_260 : decode code 260 = .ok (.iadd, 1) := by decide +kernel
theorem d_law_261 : decode code 261 = .ok (.iaload, 1) := by decide +kernel
theorem d_law_262 : decode code 262 = .ok (.invokevirtual 31, 3) := by decide +kernel
theorem d_law_265 : decode code 265 = .ok (.if_icmp .eq 473, 3) := by decide +kernel
theorem d_law_268 : decode code 268 = .ok (.iconst 0, 1) := by decide +kernel
theorem d_law_269 : decode code 269 = .ok (.ireturn, 1) := by decide +kernel
theorem d_law_270 : decode code 270 = .ok (.aload_n 1, 1) := by decide +kernel
theorem d_law_271 : decode code 271 = .ok (.aload_n 0, 1) := by decide +kernel
theorem d_law_272 : decode code 272 = .ok (.iload_n 3, 1) := by decide +kernel
theorem d_law_273 : decode code 273 = .ok (.iconst 1, 1) := by decide +kernel
theorem d_law_274 : decode code 274 = .ok (.iadd, 1) := by decide +kernel
theorem d_law_275 : decode code 275 = .ok (.iaload, 1) := by decide +kernel
theorem d_law_276 : decode code 276 = .ok (.invokevirtual 32, 3) := by decide +kernel
theorem d_law_279 : decode code 279 = .ok (.aload_n 2, 1) := by decide +kernel
theorem d_law_280 : decode code 280 = .ok (.aload_n 0, 1) := by decide +kernel
theorem d_law_281 : decode code 281 = .ok (.iload_n 3, 1) := by decide +kernel
theorem d_law_282 : decode code 282 = .ok (.iconst 1, 1) := by decide +kernel
theorem d_law_283 : decode code 283 = .ok (.iadd, 1) := by decide +kernel
theorem d_law_284 : decode code 284 = .ok (.iaload, 1) := by decide +kernel
theorem d_law_285 : decode code 285 = .ok (.invokevirtual 35, 3) := by decide +kernel
theorem d_law_288 : decode code 288 = .ok (.if_icmp .eq 450, 3) := by decide +kernel
theorem d_law_291 : decode code 291 = .ok (.iconst 0, 1) := by decide +kernel
theorem d_law_292 : decode code 292 = .ok (.ireturn, 1) := by decide +kernel
theorem d_law_293 : decode code 293 = .ok (.aload_n 1, 1) := by decide +kernel
theorem d_law_294 : decode code 294 = .ok (.aload_n 0, 1) := by decide +kernel
theorem d_law_295 : decode code 295 = .ok (.iload_n 3, 1) := by decide +kernel
theorem d_law_296 : decode code 296 = .ok (.iconst 1, 1) := by decide +kernel
theorem d_law_297 : decode code 297 = .ok (.iadd, 1) := by decide +kernel
theorem d_law_298 : decode code 298 = .ok (.iaload, 1) := by decide +kernel
theorem d_law_299 : decode code 299 = .ok (.aload_n 0, 1) := by decide +kernel
theorem d_law_300 : decode code 300 = .ok (.iload_n 3, 1) := by decide +kernel
theorem d_law_301 : decode code 301 = .ok (.iconst 2, 1) := by decide +kernel
theorem d_law_302 : decode code 302 = .ok (.iadd, 1) := by decide +kernel
theorem d_law_303 : decode code 303 = .ok (.iaload, 1) := by decide +kernel
theorem d_law_304 : decode code 304 = .ok (.invokevirtual 36, 3) := by decide +kernel
theorem d_law_307 : decode code 307 = .ok (.aload_n 2, 1) := by decide +kernel
theorem d_law_308 : decode code 308 = .ok (.aload_n 0, 1) := by decide +kernel
theorem d_law_309 : decode code 309 = .ok (.iload_n 3, 1) := by decide +kernel
theorem d_law_310 : decode code 310 = .ok (.iconst 1, 1) := by decide +kernel
theorem d_law_311 : decode code 311 = .ok (.iadd, 1) := by decide +kernel
theorem d_law_312 : decode code 312 = .ok (.iaload, 1) := by decide +kernel
theorem d_law_313 : decode code 313 = .ok (.aload_n 0, 1) := by decide +kernel
theorem d_law_314 : decode code 314 = .ok (.iload_n 3, 1) := by decide +kernel
theorem d_law_315 : decode code 315 = .ok (.iconst 2, 1) := by decide +kernel
theorem d_law_316 : decode code 316 = .ok (.iadd, 1) := by decide +kernel
theorem d_law_317 : decode code 317 = .ok (.iaload, 1) := by decide +kernel
theorem d_law_318 : decode code 318 = .ok (.invokevirtual 39, 3) := by decide +kernel
theorem d_law_321 : decode code 321 = .ok (.if_icmp .eq 417, 3) := by decide +kernel
theorem d_law_324 : decode code 324 = .ok (.iconst 0, 1) := by decide +kernel
theorem d_law_325 : decode code 325 = .ok (.ireturn, 1) := by decide +kernel
theorem d_law_326 : decode code 326 = .ok (.aload_n 1, 1) := by decide +kernel
theorem d_law_327 : decode code 327 = .ok (.aload_n 0, 1) := by decide +kernel
theorem d_law_328 : decode code 328 = .ok (.iload_n 3, 1) := by decide +kernel
theorem d_law_329 : decode code 329 = .ok (.iconst 1, 1) := by decide +kernel
theorem d_law_330 : decode code 330 = .ok (.iadd, 1) := by decide +kernel
theorem d_law_331 : decode code 331 = .ok (.iaload, 1) := by decide +kernel
theorem d_law_332 : decode code 332 = .ok (.aload_n 0, 1) := by decide +kernel
theorem d_law_333 : decode code 333 = .ok (.iload_n 3, 1) := by decide +kernel
theorem d_law_334 : decode code 334 = .ok (.iconst 2, 1) := by decide +kernel
theorem d_law_335 : decode code 335 = .ok (.iadd, 1) := by decide +kernel
theorem d_law_336 : decode code 336 = .ok (.iaload, 1) := by decide +kernel
theorem d_law_337 : decode code 337 = .ok (.aload_n 0, 1) := by decide +kernel
theorem d_law_338 : decode code 338 = .ok (.iload_n 3, 1) := by decide +kernel
theorem d_law_339 : decode code 339 = .ok (.iconst 3, 1) := by decide +kernel
theorem d_law_340 : decode code 340 = .ok (.iadd, 1) := by decide +kernel
theorem d_law_341 : decode code 341 = .ok (.iaload, 1) := by decide +kernel
theorem d_law_342 : decode code 342 = .ok (.invokevirtual 40, 3) := by decide +kernel
theorem d_law_345 : decode code 345 = .ok (.aload_n 2, 1) := by decide +kernel
theorem d_law_346 : decode code 346 = .ok (.aload_n 0, 1) := by decide +kernel
theorem d_law_347 : decode code 347 = .ok (.iload_n 3, 1) := by decide +kernel
theorem d_law_348 : decode code 348 = .ok (.iconst 1, 1) := by decide +kernel
theorem d_law_349 : decode code 349 = .ok (.iadd, 1) := by decide +kernel
theorem d_law_350 : decode code 350 = .ok (.iaload, 1) := by decide +kernel
theorem d_law_351 : decode code 351 = .ok (.aload_n 0, 1) := by decide +kernel
theorem d_law_352 : decode code 352 = .ok (.iload_n 3, 1) := by decide +kernel
theorem d_law_353 : decode code 353 = .ok (.iconst 2, 1) := by decide +kernel
theorem d_law_354 : decode code 354 = .ok (.iadd, 1) := by decide +kernel
theorem d_law_355 : decode code 355 = .ok (.iaload, 1) := by decide +kernel
theorem d_law_356 : decode code 356 = .ok (.aload_n 0, 1) := by decide +kernel
theorem d_law_357 : decode code 357 = .ok (.iload_n 3, 1) := by decide +kernel
theorem d_law_358 : decode code 358 = .ok (.iconst 3, 1) := by decide +kernel
theorem d_law_359 : decode code 359 = .ok (.iadd, 1) := by decide +kernel
theorem d_law_360 : decode code 360 = .ok (.iaload, 1) := by decide +kernel
theorem d_law_361 : decode code 361 = .ok (.invokevirtual 43, 3) := by decide +kernel
theorem d_law_364 : decode code 364 = .ok (.if_icmp .eq 374, 3) := by decide +kernel
theorem d_law_367 : decode code 367 = .ok (.iconst 0, 1) := by decide +kernel
theorem d_law_368 : decode code 368 = .ok (.ireturn, 1) := by decide +kernel
theorem d_law_369 : decode code 369 = .ok (.aload_n 1, 1) := by decide +kernel
theorem d_law_370 : decode code 370 = .ok (.aload_n 0, 1) := by decide +kernel
theorem d_law_371 : decode code 371 = .ok (.iload_n 3, 1) := by decide +kernel
theorem d_law_372 : decode code 372 = .ok (.iconst 1, 1) := by decide +kernel
theorem d_law_373 : decode code 373 = .ok (.iadd, 1) := by decide +kernel
theorem d_law_374 : decode code 374 = .ok (.iaload, 1) := by decide +kernel
theorem d_law_375 : decode code 375 = .ok (.aload_n 0, 1) := by decide +kernel
theorem d_law_376 : decode code 376 = .ok (.iload_n 3, 1) := by decide +kernel
theorem d_law_377 : decode code 377 = .ok (.iconst 2, 1) := by decide +kernel
theorem d_law_378 : decode code 378 = .ok (.iadd, 1) := by decide +kernel
theorem d_law_379 : decode code 379 = .ok (.iaload, 1) := by decide +kernel
theorem d_law_380 : decode code 380 = .ok (.aload_n 0, 1) := by decide +kernel
theorem d_law_381 : decode code 381 = .ok (.iload_n 3, 1) := by decide +kernel
theorem d_law_382 : decode code 382 = .ok (.iconst 3, 1) := by decide +kernel
theorem d_law_383 : decode code 383 = .ok (.iadd, 1) := by decide +kernel
theorem d_law_384 : decode code 384 = .ok (.iaload, 1) := by decide +kernel
theorem d_law_385 : decode code 385 = .ok (.invokevirtual 44, 3) := by decide +kernel
theorem d_law_388 : decode code 388 = .ok (.aload_n 2, 1) := by decide +kernel
theorem d_law_389 : decode code 389 = .ok (.aload_n 0, 1) := by decide +kernel
theorem d_law_390 : decode code 390 = .ok (.iload_n 3, 1) := by decide +kernel
theorem d_law_391 : decode code 391 = .ok (.iconst 1, 1) := by decide +kernel
theorem d_law_392 : decode code 392 = .ok (.iadd, 1) := by decide +kernel
theorem d_law_393 : decode code 393 = .ok (.iaload, 1) := by decide +kernel
theorem d_law_394 : decode code 394 = .ok (.aload_n 0, 1) := by decide +kernel
theorem d_law_395 : decode code 395 = .ok (.iload_n 3, 1) := by decide +kernel
theorem d_law_396 : decode code 396 = .ok (.iconst 2, 1) := by decide +kernel
theorem d_law_397 : decode code 397 = .ok (.iadd, 1) := by decide +kernel
theorem d_law_398 : decode code 398 = .ok (.iaload, 1) := by decide +kernel
theorem d_law_399 : decode code 399 = .ok (.aload_n 0, 1) := by decide +kernel
theorem d_law_400 : decode code 400 = .ok (.iload_n 3, 1) := by decide +kernel
theorem d_law_401 : decode code 401 = .ok (.iconst 3, 1) := by decide +kernel
theorem d_law_402 : decode code 402 = .ok (.iadd, 1) := by decide +kernel
theorem d_law_403 : decode code 403 = .ok (.iaload, 1) := by decide +kernel
theorem d_law_404 : decode code 404 = .ok (.invokevirtual 47, 3) := by decide +kernel
theorem d_law_407 : decode code 407 = .ok (.if_icmp .eq 331, 3) := by decide +kernel
theorem d_law_410 : decode code 410 = .ok (.iconst 0, 1) := by decide +kernel
theorem d_law_411 : decode code 411 = .ok (.ireturn, 1) := by decide +kernel
theorem d_law_412 : decode code 412 = .ok (.aload_n 1, 1) := by decide +kernel
theorem d_law_413 : decode code 413 = .ok (.aload_n 0, 1) := by decide +kernel
theorem d_law_414 : decode code 414 = .ok (.iload_n 3, 1) := by decide +kernel
theorem d_law_415 : decode code 415 = .ok (.iconst 1, 1) := by decide +kernel
theorem d_law_416 : decode code 416 = .ok (.iadd, 1) := by decide +kernel
theorem d_law_417 : decode code 417 = .ok (.iaload, 1) := by decide +kernel
theorem d_law_418 : decode code 418 = .ok (.aload_n 0, 1) := by decide +kernel
theorem d_law_419 : decode code 419 = .ok (.iload_n 3, 1) := by decide +kernel
theorem d_law_420 : decode code 420 = .ok (.iconst 2, 1) := by decide +kernel
theorem d_law_421 : decode code 421 = .ok (.iadd, 1) := by decide +kernel
theorem d_law_422 : decode code 422 = .ok (.iaload, 1) := by decide +kernel
theorem d_law_423 : decode code 423 = .ok (.invokevirtual 48, 3) := by decide +kernel
theorem d_law_426 : decode code 426 = .ok (.aload_n 2, 1) := by decide +kernel
theorem d_law_427 : decode code 427 = .ok (.aload_n 0, 1) := by decide +kernel
theorem d_law_428 : decode code 428 = .ok (.iload_n 3, 1) := by decide +kernel
theorem d_law_429 : decode code 429 = .ok (.iconst 1, 1) := by decide +kernel
theorem d_law_430 : decode code 430 = .ok (.iadd, 1) := by decide +kernel
theorem d_law_431 : decode code 431 = .ok (.iaload, 1) := by decide +kernel
theorem d_law_432 : decode code 432 = .ok (.aload_n 0, 1) := by decide +kernel
theorem d_law_433 : decode code 433 = .ok (.iload_n 3, 1) := by decide +kernel
theorem d_law_434 : decode code 434 = .ok (.iconst 2, 1) := by decide +kernel
theorem d_law_435 : decode code 435 = .ok (.iadd, 1) := by decide +kernel
theorem d_law_436 : decode code 436 = .ok (.iaload, 1) := by decide +kernel
theorem d_law_437 : decode code 437 = .ok (.invokevirtual 51, 3) := by decide +kernel
theorem d_law_440 : decode code 440 = .ok (.if_icmp .eq 298, 3) := by decide +kernel
theorem d_law_443 : decode code 443 = .ok (.iconst 0, 1) := by decide +kernel
theorem d_law_444 : decode code 444 = .ok (.ireturn, 1) := by decide +kernel
theorem d_law_445 : decode code 445 = .ok (.aload_n 1, 1) := by decide +kernel
theorem d_law_446 : decode code 446 = .ok (.aload_n 0, 1) := by decide +kernel
theorem d_law_447 : decode code 447 = .ok (.iload_n 3, 1) := by decide +kernel
theorem d_law_448 : decode code 448 = .ok (.iconst 1, 1) := by decide +kernel
theorem d_law_449 : decode code 449 = .ok (.iadd, 1) := by decide +kernel
theorem d_law_450 : decode code 450 = .ok (.iaload, 1) := by decide +kernel
theorem d_law_451 : decode code 451 = .ok (.aload_n 0, 1) := by decide +kernel
theorem d_law_452 : decode code 452 = .ok (.iload_n 3, 1) := by decide +kernel
theorem d_law_453 : decode code 453 = .ok (.iconst 2, 1) := by decide +kernel
theorem d_law_454 : decode code 454 = .ok (.iadd, 1) := by decide +kernel
theorem d_law_455 : decode code 455 = .ok (.iaload, 1) := by decide +kernel
theorem d_law_456 : decode code 456 = .ok (.invokevirtual 52, 3) := by decide +kernel
theorem d_law_459 : decode code 459 = .ok (.aload_n 2, 1) := by decide +kernel
theorem d_law_460 : decode code 460 = .ok (.aload_n 0, 1) := by decide +kernel
theorem d_law_461 : decode code 461 = .ok (.iload_n 3, 1) := by decide +kernel
theorem d_law_462 : decode code 462 = .ok (.iconst 1, 1) := by decide +kernel
theorem d_law_463 : decode code 463 = .ok (.iadd, 1) := by decide +kernel
theorem d_law_464 : decode code 464 = .ok (.iaload, 1) := by decide +kernel
theorem d_law_465 : decode code 465 = .ok (.aload_n 0, 1) := by decide +kernel
theorem d_law_466 : decode code 466 = .ok (.iload_n 3, 1) := by decide +kernel
theorem d_law_467 : decode code 467 = .ok (.iconst 2, 1) := by decide +kernel
theorem d_law_468 : decode code 468 = .ok (.iadd, 1) := by decide +kernel
theorem d_law_469 : decode code 469 = .ok (.iaload, 1) := by decide +kernel
theorem d_law_470 : decode code 470 = .ok (.invokevirtual 55, 3) := by decide +kernel
theorem d_law_473 : decode code 473 = .ok (.if_icmp .eq 265, 3) := by decide +kernel
theorem d_law_476 : decode code 476 = .ok (.iconst 0, 1) := by decide +kernel
theorem d_law_477 : decode code 477 = .ok (.ireturn, 1) := by decide +kernel
theorem d_law_478 : decode code 478 = .ok (.aload_n 1, 1) := by decide +kernel
theorem d_law_479 : decode code 479 = .ok (.aload_n 0, 1) := by decide +kernel
theorem d_law_480 : decode code 480 = .ok (.iload_n 3, 1) := by decide +kernel
theorem d_law_481 : decode code 481 = .ok (.iconst 1, 1) := by decide +kernel
theorem d_law_482 : decode code 482 = .ok (.iadd, 1) := by decide +kernel
theorem d_law_483 : decode code 483 = .ok (.iaload, 1) := by decide +kernel
theorem d_law_484 : decode code 484 = .ok (.aload_n 0, 1) := by decide +kernel
theorem d_law_485 : decode code 485 = .ok (.iload_n 3, 1) := by decide +kernel
theorem d_law_486 : decode code 486 = .ok (.iconst 2, 1) := by decide +kernel
theorem d_law_487 : decode code 487 = .ok (.iadd, 1) := by decide +kernel
theorem d_law_488 : decode code 488 = .ok (.iaload, 1) := by decide +kernel
theorem d_law_489 : decode code 489 = .ok (.invokevirtual 56, 3) := by decide +kernel
theorem d_law_492 : decode code 492 = .ok (.aload_n 2, 1) := by decide +kernel
theorem d_law_493 : decode code 493 = .ok (.aload_n 0, 1) := by decide +kernel
theorem d_law_494 : decode code 494 = .ok (.iload_n 3, 1) := by decide +kernel
theorem d_law_495 : decode code 495 = .ok (.iconst 1, 1) := by decide +kernel
theorem d_law_496 : decode code 496 = .ok (.iadd, 1) := by decide +kernel
theorem d_law_497 : decode code 497 = .ok (.iaload, 1) := by decide +kernel
theorem d_law_498 : decode code 498 = .ok (.aload_n 0, 1) := by decide +kernel
theorem d_law_499 : decode code 499 = .ok (.iload_n 3, 1) := by decide +kernel
theorem d_law_500 : decode code 500 = .ok (.iconst 2, 1) := by decide +kernel
theorem d_law_501 : decode code 501 = .ok (.iadd, 1) := by decide +kernel
theorem d_law_502 : decode code 502 = .ok (.iaload, 1) := by decide +kernel
theorem d_law_503 : decode code 503 = .ok (.invokevirtual 59, 3) := by decide +kernel
theorem d_law_506 : decode code 506 = .ok (.if_icmp .eq 232, 3) := by decide +kernel
theorem d_law_509 : decode code 509 = .ok (.iconst 0, 1) := by decide +kernel
theorem d_law_510 : decode code 510 = .ok (.ireturn, 1) := by decide +kernel
theorem d_law_511 : decode code 511 = .ok (.aload_n 1, 1) := by decide +kernel
theorem d_law_512 : decode code 512 = .ok (.aload_n 0, 1) := by decide +kernel
theorem d_law_513 : decode code 513 = .ok (.iload_n 3, 1) := by decide +kernel
theorem d_law_514 : decode code 514 = .ok (.iconst 1, 1) := by decide +kernel
theorem d_law_515 : decode code 515 = .ok (.iadd, 1) := by decide +kernel
theorem d_law_516 : decode code 516 = .ok (.iaload, 1) := by decide +kernel
theorem d_law_517 : decode code 517 = .ok (.aload_n 0, 1) := by decide +kernel
theorem d_law_518 : decode code 518 = .ok (.iload_n 3, 1) := by decide +kernel
theorem d_law_519 : decode code 519 = .ok (.iconst 2, 1) := by decide +kernel
theorem d_law_520 : decode code 520 = .ok (.iadd, 1) := by decide +kernel
theorem d_law_521 : decode code 521 = .ok (.iaload, 1) := by decide +kernel
theorem d_law_522 : decode code 522 = .ok (.invokevirtual 60, 3) := by decide +kernel
theorem d_law_525 : decode code 525 = .ok (.aload_n 2, 1) := by decide +kernel
theorem d_law_526 : decode code 526 = .ok (.aload_n 0, 1) := by decide +kernel
theorem d_law_527 : decode code 527 = .ok (.iload_n 3, 1) := by decide +kernel
theorem d_law_528 : decode code 528 = .ok (.iconst 1, 1) := by decide +kernel
theorem d_law_529 : decode code 529 = .ok (.iadd, 1) := by decide +kernel
theorem d_law_530 : decode code 530 = .ok (.iaload, 1) := by decide +kernel
theorem d_law_531 : decode code 531 = .ok (.aload_n 0, 1) := by decide +kernel
theorem d_law_532 : decode code 532 = .ok (.iload_n 3, 1) := by decide +kernel
theorem d_law_533 : decode code 533 = .ok (.iconst 2, 1) := by decide +kernel
theorem d_law_534 : decode code 534 = .ok (.iadd, 1) := by decide +kernel
theorem d_law_535 : decode code 535 = .ok (.iaload, 1) := by decide +kernel
theorem d_law_536 : decode code 536 = .ok (.invokevirtual 63, 3) := by decide +kernel
theorem d_law_539 : decode code 539 = .ok (.if_icmp .eq 199, 3) := by decide +kernel
theorem d_law_542 : decode code 542 = .ok (.iconst 0, 1) := by decide +kernel
theorem d_law_543 : decode code 543 = .ok (.ireturn, 1) := by decide +kernel
theorem d_law_544 : decode code 544 = .ok (.aload_n 1, 1) := by decide +kernel
theorem d_law_545 : decode code 545 = .ok (.aload_n 0, 1) := by decide +kernel
theorem d_law_546 : decode code 546 = .ok (.iload_n 3, 1) := by decide +kernel
theorem d_law_547 : decode code 547 = .ok (.iconst 1, 1) := by decide +kernel
theorem d_law_548 : decode code 548 = .ok (.iadd, 1) := by decide +kernel
theorem d_law_549 : decode code 549 = .ok (.iaload, 1) := by decide +kernel
theorem d_law_550 : decode code 550 = .ok (.invokevirtual 64, 3) := by decide +kernel
theorem d_law_553 : decode code 553 = .ok (.aload_n 2, 1) := by decide +kernel
theorem d_law_554 : decode code 554 = .ok (.aload_n 0, 1) := by decide +kernel
theorem d_law_555 : decode code 555 = .ok (.iload_n 3, 1) := by decide +kernel
theorem d_law_556 : decode code 556 = .ok (.iconst 1, 1) := by decide +kernel
theorem d_law_557 : decode code 557 = .ok (.iadd, 1) := by decide +kernel
theorem d_law_558 : decode code 558 = .ok (.iaload, 1) := by decide +kernel
theorem d_law_559 : decode code 559 = .ok (.invokevirtual 67, 3) := by decide +kernel
theorem d_law_562 : decode code 562 = .ok (.if_icmp .eq 176, 3) := by decide +kernel
theorem d_law_565 : decode code 565 = .ok (.iconst 0, 1) := by decide +kernel
theorem d_law_566 : decode code 566 = .ok (.ireturn, 1) := by decide +kernel
theorem d_law_567 : decode code 567 = .ok (.aload_n 1, 1) := by decide +kernel
theorem d_law_568 : decode code 568 = .ok (.aload_n 0, 1) := by decide +kernel
theorem d_law_569 : decode code 569 = .ok (.iload_n 3, 1) := by decide +kernel
theorem d_law_570 : decode code 570 = .ok (.iconst 1, 1) := by decide +kernel
theorem d_law_571 : decode code 571 = .ok (.iadd, 1) := by decide +kernel
theorem d_law_572 : decode code 572 = .ok (.iaload, 1) := by decide +kernel
theorem d_law_573 : decode code 573 = .ok (.aload_n 0, 1) := by decide +kernel
theorem d_law_574 : decode code 574 = .ok (.iload_n 3, 1) := by decide +kernel
theorem d_law_575 : decode code 575 = .ok (.iconst 2, 1) := by decide +kernel
theorem d_law_576 : decode code 576 = .ok (.iadd, 1) := by decide +kernel
theorem d_law_577 : decode code 577 = .ok (.iaload, 1) := by decide +kernel
theorem d_law_578 : decode code 578 = .ok (.invokevirtual 68, 3) := by decide +kernel
theorem d_law_581 : decode code 581 = .ok (.aload_n 2, 1) := by decide +kernel
theorem d_law_582 : decode code 582 = .ok (.aload_n 0, 1) := by decide +kernel
theorem d_law_583 : decode code 583 = .ok (.iload_n 3, 1) := by decide +kernel
theorem d_law_584 : decode code 584 = .ok (.iconst 1, 1) := by decide +kernel
theorem d_law_585 : decode code 585 = .ok (.iadd, 1) := by decide +kernel
theorem d_law_586 : decode code 586 = .ok (.iaload, 1) := by decide +kernel
theorem d_law_587 : decode code 587 = .ok (.aload_n 0, 1) := by decide +kernel
theorem d_law_588 : decode code 588 = .ok (.iload_n 3, 1) := by decide +kernel
theorem d_law_589 : decode code 589 = .ok (.iconst 2, 1) := by decide +kernel
theorem d_law_590 : decode code 590 = .ok (.iadd, 1) := by decide +kernel
theorem d_law_591 : decode code 591 = .ok (.iaload, 1) := by decide +kernel
theorem d_law_592 : decode code 592 = .ok (.invokevirtual 71, 3) := by decide +kernel
theorem d_law_595 : decode code 595 = .ok (.if_icmp .eq 143, 3) := by decide +kernel
theorem d_law_598 : decode code 598 = .ok (.iconst 0, 1) := by decide +kernel
theorem d_law_599 : decode code 599 = .ok (.ireturn, 1) := by decide +kernel
theorem d_law_600 : decode code 600 = .ok (.aload_n 1, 1) := by decide +kernel
theorem d_law_601 : decode code 601 = .ok (.aload_n 0, 1) := by decide +kernel
theorem d_law_602 : decode code 602 = .ok (.iload_n 3, 1) := by decide +kernel
theorem d_law_603 : decode code 603 = .ok (.iconst 1, 1) := by decide +kernel
theorem d_law_604 : decode code 604 = .ok (.iadd, 1) := by decide +kernel
theorem d_law_605 : decode code 605 = .ok (.iaload, 1) := by decide +kernel
theorem d_law_606 : decode code 606 = .ok (.invokevirtual 72, 3) := by decide +kernel
theorem d_law_609 : decode code 609 = .ok (.aload_n 2, 1) := by decide +kernel
theorem d_law_610 : decode code 610 = .ok (.aload_n 0, 1) := by decide +kernel
theorem d_law_611 : decode code 611 = .ok (.iload_n 3, 1) := by decide +kernel
theorem d_law_612 : decode code 612 = .ok (.iconst 1, 1) := by decide +kernel
theorem d_law_613 : decode code 613 = .ok (.iadd, 1) := by decide +kernel
theorem d_law_614 : decode code 614 = .ok (.iaload, 1) := by decide +kernel
theorem d_law_615 : decode code 615 = .ok (.invokevirtual 75, 3) := by decide +kernel
theorem d_law_618 : decode code 618 = .ok (.if_icmp .eq 120, 3) := by decide +kernel
theorem d_law_621 : decode code 621 = .ok (.iconst 0, 1) := by decide +kernel
theorem d_law_622 : decode code 622 = .ok (.ireturn, 1) := by decide +kernel
theorem d_law_623 : decode code 623 = .ok (.aload_n 1, 1) := by decide +kernel
theorem d_law_624 : decode code 624 = .ok (.invokevirtual 76, 3) := by decide +kernel
theorem d_law_627 : decode code 627 = .ok (.aload_n 2, 1) := by decide +kernel
theorem d_law_628 : decode code 628 = .ok (.invokevirtual 80, 3) := by decide +kernel
theorem d_law_631 : decode code 631 = .ok (.if_icmp .eq 107, 3) := by decide +kernel
theorem d_law_634 : decode code 634 = .ok (.iconst 0, 1) := by decide +kernel
theorem d_law_635 : decode code 635 = .ok (.ireturn, 1) := by decide +kernel
theorem d_law_636 : decode code 636 = .ok (.aload_n 1, 1) := by decide +kernel
theorem d_law_637 : decode code 637 = .ok (.aload_n 0, 1) := by decide +kernel
theorem d_law_638 : decode code 638 = .ok (.iload_n 3, 1) := by decide +kernel
theorem d_law_639 : decode code 639 = .ok (.iconst 1, 1) := by decide +kernel
theorem d_law_640 : decode code 640 = .ok (.iadd, 1) := by decide +kernel
theorem d_law_641 : decode code 641 = .ok (.iaload, 1) := by decide +kernel
theorem d_law_642 : decode code 642 = .ok (.aload_n 0, 1) := by decide +kernel
theorem d_law_643 : decode code 643 = .ok (.iload_n 3, 1) := by decide +kernel
theorem d_law_644 : decode code 644 = .ok (.iconst 2, 1) := by decide +kernel
theorem d_law_645 : decode code 645 = .ok (.iadd, 1) := by decide +kernel
theorem d_law_646 : decode code 646 = .ok (.iaload, 1) := by decide +kernel
theorem d_law_647 : decode code 647 = .ok (.invokevirtual 81, 3) := by decide +kernel
theorem d_law_650 : decode code 650 = .ok (.aload_n 2, 1) := by decide +kernel
theorem d_law_651 : decode code 651 = .ok (.aload_n 0, 1) := by decide +kernel
theorem d_law_652 : decode code 652 = .ok (.iload_n 3, 1) := by decide +kernel
theorem d_law_653 : decode code 653 = .ok (.iconst 1, 1) := by decide +kernel
theorem d_law_654 : decode code 654 = .ok (.iadd, 1) := by decide +kernel
theorem d_law_655 : decode code 655 = .ok (.iaload, 1) := by decide +kernel
theorem d_law_656 : decode code 656 = .ok (.aload_n 0, 1) := by decide +kernel
theorem d_law_657 : decode code 657 = .ok (.iload_n 3, 1) := by decide +kernel
theorem d_law_658 : decode code 658 = .ok (.iconst 2, 1) := by decide +kernel
theorem d_law_659 : decode code 659 = .ok (.iadd, 1) := by decide +kernel
theorem d_law_660 : decode code 660 = .ok (.iaload, 1) := by decide +kernel
theorem d_law_661 : decode code 661 = .ok (.invokevirtual 84, 3) := by decide +kernel
theorem d_law_664 : decode code 664 = .ok (.if_icmp .eq 74, 3) := by decide +kernel
theorem d_law_667 : decode code 667 = .ok (.iconst 0, 1) := by decide +kernel
theorem d_law_668 : decode code 668 = .ok (.ireturn, 1) := by decide +kernel
theorem d_law_669 : decode code 669 = .ok (.aload_n 1, 1) := by decide +kernel
theorem d_law_670 : decode code 670 = .ok (.aload_n 0, 1) := by decide +kernel
theorem d_law_671 : decode code 671 = .ok (.iload_n 3, 1) := by decide +kernel
theorem d_law_672 : decode code 672 = .ok (.iconst 1, 1) := by decide +kernel
theorem d_law_673 : decode code 673 = .ok (.iadd, 1) := by decide +kernel
theorem d_law_674 : decode code 674 = .ok (.iaload, 1) := by decide +kernel
theorem d_law_675 : decode code 675 = .ok (.invokevirtual 85, 3) := by decide +kernel
theorem d_law_678 : decode code 678 = .ok (.aload_n 2, 1) := by decide +kernel
theorem d_law_679 : decode code 679 = .ok (.aload_n 0, 1) := by decide +kernel
theorem d_law_680 : decode code 680 = .ok (.iload_n 3, 1) := by decide +kernel
theorem d_law_681 : decode code 681 = .ok (.iconst 1, 1) := by decide +kernel
theorem d_law_682 : decode code 682 = .ok (.iadd, 1) := by decide +kernel
theorem d_law_683 : decode code 683 = .ok (.iaload, 1) := by decide +kernel
theorem d_law_684 : decode code 684 = .ok (.invokevirtual 88, 3) := by decide +kernel
theorem d_law_687 : decode code 687 = .ok (.if_icmp .eq 51, 3) := by decide +kernel
theorem d_law_690 : decode code 690 = .ok (.iconst 0, 1) := by decide +kernel
theorem d_law_691 : decode code 691 = .ok (.ireturn, 1) := by decide +kernel
theorem d_law_692 : decode code 692 = .ok (.aload_n 1, 1) := by decide +kernel
theorem d_law_693 : decode code 693 = .ok (.aload_n 0, 1) := by decide +kernel
theorem d_law_694 : decode code 694 = .ok (.iload_n 3, 1) := by decide +kernel
theorem d_law_695 : decode code 695 = .ok (.iconst 1, 1) := by decide +kernel
theorem d_law_696 : decode code 696 = .ok (.iadd, 1) := by decide +kernel
theorem d_law_697 : decode code 697 = .ok (.iaload, 1) := by decide +kernel
theorem d_law_698 : decode code 698 = .ok (.invokevirtual 89, 3) := by decide +kernel
theorem d_law_701 : decode code 701 = .ok (.aload_n 2, 1) := by decide +kernel
theorem d_law_702 : decode code 702 = .ok (.aload_n 0, 1) := by decide +kernel
theorem d_law_703 : decode code 703 = .ok (.iload_n 3, 1) := by decide +kernel
theorem d_law_704 : decode code 704 = .ok (.iconst 1, 1) := by decide +kernel
theorem d_law_705 : decode code 705 = .ok (.iadd, 1) := by decide +kernel
theorem d_law_706 : decode code 706 = .ok (.iaload, 1) := by decide +kernel
theorem d_law_707 : decode code 707 = .ok (.invokevirtual 92, 3) := by decide +kernel
theorem d_law_710 : decode code 710 = .ok (.if_icmp .eq 28, 3) := by decide +kernel
theorem d_law_713 : decode code 713 = .ok (.iconst 0, 1) := by decide +kernel
theorem d_law_714 : decode code 714 = .ok (.ireturn, 1) := by decide +kernel
theorem d_law_715 : decode code 715 = .ok (.aload_n 1, 1) := by decide +kernel
theorem d_law_716 : decode code 716 = .ok (.aload_n 0, 1) := by decide +kernel
theorem d_law_717 : decode code 717 = .ok (.iload_n 3, 1) := by decide +kernel
theorem d_law_718 : decode code 718 = .ok (.iconst 1, 1) := by decide +kernel
theorem d_law_719 : decode code 719 = .ok (.iadd, 1) := by decide +kernel
theorem d_law_720 : decode code 720 = .ok (.iaload, 1) := by decide +kernel
theorem d_law_721 : decode code 721 = .ok (.invokevirtual 93, 3) := by decide +kernel
theorem d_law_724 : decode code 724 = .ok (.aload_n 2, 1) := by decide +kernel
theorem d_law_725 : decode code 725 = .ok (.aload_n 0, 1) := by decide +kernel
theorem d_law_726 : decode code 726 = .ok (.iload_n 3, 1) := by decide +kernel
theorem d_law_727 : decode code 727 = .ok (.iconst 1, 1) := by decide +kernel
theorem d_law_728 : decode code 728 = .ok (.iadd, 1) := by decide +kernel
theorem d_law_729 : decode code 729 = .ok (.iaload, 1) := by decide +kernel
theorem d_law_730 : decode code 730 = .ok (.invokevirtual 96, 3) := by decide +kernel
theorem d_law_733 : decode code 733 = .ok (.if_icmp .eq 5, 3) := by decide +kernel
theorem d_law_736 : decode code 736 = .ok (.iconst 0, 1) := by decide +kernel
theorem d_law_737 : decode code 737 = .ok (.ireturn, 1) := by decide +kernel
theorem d_law_738 : decode code 738 = .ok (.iinc 3 4, 3) := by decide +kernel
theorem d_law_741 : decode code 741 = .ok (.goto (-723), 3) := by decide +kernel
theorem d_law_744 : decode code 744 = .ok (.iconst 1, 1) := by decide +kernel
theorem d_law_745 : decode code 745 = .ok (.ireturn, 1) := by decide +kernel
end
section
/-! decode rows, by program -/
theorem d_M_init_0 : decode prog_9_method_1_code 0 = .ok (.aload_n 0, 1) := by decide +kernel
theorem d_M_init_1 : decode prog_9_method_1_code 1 = .ok (.invokespecial 1, 3) := by decide +kernel
theorem d_M_init_4 : decode prog_9_method_1_code 4 = .ok (.aload_n 0, 1) := by decide +kernel
theorem d_M_init_5 : decode prog_9_method_1_code 5 = .ok (.bipush 8, 2) := by decide +kernel
theorem d_M_init_7 : decode prog_9_method_1_code 7 = .ok (.newarray .boolean, 2) := by decide +kernel
theorem d_M_init_9 : decode prog_9_method_1_code 9 = .ok (.putfield 7, 3) := by decide +kernel
theorem d_M_init_12 : decode prog_9_method_1_code 12 = .ok (.aload_n 0, 1) := by decide +kernel
theorem d_M_init_13 : decode prog_9_method_1_code 13 = .ok (.bipush 8, 2) := by decide +kernel
theorem d_M_init_15 : decode prog_9_method_1_code 15 = .ok (.newarray .int, 2) := by decide +kernel
theorem d_M_init_17 : decode prog_9_method_1_code 17 = .ok (.putfield 13, 3) := by decide +kernel
theorem d_M_init_20 : decode prog_9_method_1_code 20 = .ok (.aload_n 0, 1) := by decide +kernel
theorem d_M_init_21 : decode prog_9_method_1_code 21 = .ok (.sipush 256, 3) := by decide +kernel
theorem d_M_init_24 : decode prog_9_method_1_code 24 = .ok (.newarray .int, 2) := by decide +kernel
theorem d_M_init_26 : decode prog_9_method_1_code 26 = .ok (.putfield 17, 3) := by decide +kernel
theorem d_M_init_29 : decode prog_9_method_1_code 29 = .ok (.aload_n 0, 1) := by decide +kernel
theorem d_M_init_30 : decode prog_9_method_1_code 30 = .ok (.bipush 8, 2) := by decide +kernel
theorem d_M_init_32 : decode prog_9_method_1_code 32 = .ok (.newarray .int, 2) := by decide +kernel
theorem d_M_init_34 : decode prog_9_method_1_code 34 = .ok (.putfield 20, 3) := by decide +kernel
theorem d_M_init_37 : decode prog_9_method_1_code 37 = .ok (.aload_n 0, 1) := by decide +kernel
theorem d_M_init_38 : decode prog_9_method_1_code 38 = .ok (.bipush 8, 2) := by decide +kernel
theorem d_M_init_40 : decode prog_9_method_1_code 40 = .ok (.newarray .int, 2) := by decide +kernel
theorem d_M_init_42 : decode prog_9_method_1_code 42 = .ok (.putfield 23, 3) := by decide +kernel
theorem d_M_init_45 : decode prog_9_method_1_code 45 = .ok (.aload_n 0, 1) := by decide +kernel
theorem d_M_init_46 : decode prog_9_method_1_code 46 = .ok (.bipush 6, 2) := by decide +kernel
theorem d_M_init_48 : decode prog_9_method_1_code 48 = .ok (.newarray .int, 2) := by decide +kernel
theorem d_M_init_50 : decode prog_9_method_1_code 50 = .ok (.putfield 26, 3) := by decide +kernel
theorem d_M_init_53 : decode prog_9_method_1_code 53 = .ok (.aload_n 0, 1) := by decide +kernel
theorem d_M_init_54 : decode prog_9_method_1_code 54 = .ok (.bipush 6, 2) := by decide +kernel
theorem d_M_init_56 : decode prog_9_method_1_code 56 = .ok (.newarray .boolean, 2) := by decide +kernel
theorem d_M_init_58 : decode prog_9_method_1_code 58 = .ok (.putfield 29, 3) := by decide +kernel
theorem d_M_init_61 : decode prog_9_method_1_code 61 = .ok (.aload_n 0, 1) := by decide +kernel
theorem d_M_init_62 : decode prog_9_method_1_code 62 = .ok (.bipush 48, 2) := by decide +kernel
theorem d_M_init_64 : decode prog_9_method_1_code 64 = .ok (.newarray .int, 2) := by decide +kernel
theorem d_M_init_66 : decode prog_9_method_1_code 66 = .ok (.putfield 32, 3) := by decide +kernel
theorem d_M_init_69 : decode prog_9_method_1_code 69 = .ok (.aload_n 0, 1) := by decide +kernel
theorem d_M_init_70 : decode prog_9_method_1_code 70 = .ok (.bipush 7, 2) := by decide +kernel
theorem d_M_init_72 : decode prog_9_method_1_code 72 = .ok (.newarray .boolean, 2) := by decide +kernel
theorem d_M_init_74 : decode prog_9_method_1_code 74 = .ok (.putfield 35, 3) := by decide +kernel
theorem d_M_init_77 : decode prog_9_method_1_code 77 = .ok (.aload_n 0, 1) := by decide +kernel
theorem d_M_init_78 : decode prog_9_method_1_code 78 = .ok (.bipush 7, 2) := by decide +kernel
theorem d_M_init_80 : decode prog_9_method_1_code 80 = .ok (.newarray .boolean, 2) := by decide +kernel
theorem d_M_init_82 : decode prog_9_method_1_code 82 = .ok (.putfield 38, 3) := by decide +kernel
theorem d_M_init_85 : decode prog_9_method_1_code 85 = .ok (.aload_n 0, 1) := by decide +kernel
theorem d_M_init_86 : decode prog_9_method_1_code 86 = .ok (.bipush 7, 2) := by decide +kernel
theorem d_M_init_88 : decode prog_9_method_1_code 88 = .ok (.newarray .int, 2) := by decide +kernel
theorem d_M_init_90 : decode prog_9_method_1_code 90 = .ok (.putfield 41, 3) := by decide +kernel
theorem d_M_init_93 : decode prog_9_method_1_code 93 = .ok (.aload_n 0, 1) := by decide +kernel
theorem d_M_init_94 : decode prog_9_method_1_code 94 = .ok (.bipush 7, 2) := by decide +kernel
theorem d_M_init_96 : decode prog_9_method_1_code 96 = .ok (.newarray .int, 2) := by decide +kernel
theorem d_M_init_98 : decode prog_9_method_1_code 98 = .ok (.putfield 44, 3) := by decide +kernel
theorem d_M_init_101 : decode prog_9_method_1_code 101 = .ok (.aload_n 0, 1) := by decide +kernel
theorem d_M_init_102 : decode prog_9_method_1_code 102 = .ok (.bipush 42, 2) := by decide +kernel
theorem d_M_init_104 : decode prog_9_method_1_code 104 = .ok (.newarray .int, 2) := by decide +kernel
theorem d_M_init_106 : decode prog_9_method_1_code 106 = .ok (.putfield 47, 3) := by decide +kernel
theorem d_M_init_109 : decode prog_9_method_1_code 109 = .ok (.aload_n 0, 1) := by decide +kernel
theorem d_M_init_110 : decode prog_9_method_1_code 110 = .ok (.bipush 16, 2) := by decide +kernel
theorem d_M_init_112 : decode prog_9_method_1_code 112 = .ok (.newarray .int, 2) := by decide +kernel
theorem d_M_init_114 : decode prog_9_method_1_code 114 = .ok (.putfield 50, 3) := by decide +kernel
theorem d_M_init_117 : decode prog_9_method_1_code 117 = .ok (.aload_n 0, 1) := by decide +kernel
theorem d_M_init_118 : decode prog_9_method_1_code 118 = .ok (.bipush 16, 2) := by decide +kernel
theorem d_M_init_120 : decode prog_9_method_1_code 120 = .ok (.newarray .int, 2) := by decide +kernel
theorem d_M_init_122 : decode prog_9_method_1_code 122 = .ok (.putfield 53, 3) := by decide +kernel
theorem d_M_init_125 : decode prog_9_method_1_code 125 = .ok (.aload_n 0, 1) := by decide +kernel
theorem d_M_init_126 : decode prog_9_method_1_code 126 = .ok (.bipush 16, 2) := by decide +kernel
theorem d_M_init_128 : decode prog_9_method_1_code 128 = .ok (.newarray .int, 2) := by decide +kernel
theorem d_M_init_130 : decode prog_9_method_1_code 130 = .ok (.putfield 56, 3) := by decide +kernel
theorem d_M_init_133 : decode prog_9_method_1_code 133 = .ok (.aload_n 0, 1) := by decide +kernel
theorem d_M_init_134 : decode prog_9_method_1_code 134 = .ok (.bipush 16, 2) := by decide +kernel
theorem d_M_init_136 : decode prog_9_method_1_code 136 = .ok (.newarray .int, 2) := by decide +kernel
theorem d_M_init_138 : decode prog_9_method_1_code 138 = .ok (.putfield 59, 3) := by decide +kernel
theorem d_M_init_141 : decode prog_9_method_1_code 141 = .ok (.aload_n 0, 1) := by decide +kernel
theorem d_M_init_142 : decode prog_9_method_1_code 142 = .ok (.bipush 64, 2) := by decide +kernel
theorem d_M_init_144 : decode prog_9_method_1_code 144 = .ok (.newarray .int, 2) := by decide +kernel
theorem d_M_init_146 : decode prog_9_method_1_code 146 = .ok (.putfield 62, 3) := by decide +kernel
theorem d_M_init_149 : decode prog_9_method_1_code 149 = .ok (.aload_n 0, 1) := by decide +kernel
theorem d_M_init_150 : decode prog_9_method_1_code 150 = .ok (.bipush 16, 2) := by decide +kernel
theorem d_M_init_152 : decode prog_9_method_1_code 152 = .ok (.newarray .int, 2) := by decide +kernel
theorem d_M_init_154 : decode prog_9_method_1_code 154 = .ok (.putfield 65, 3) := by decide +kernel
theorem d_M_init_157 : decode prog_9_method_1_code 157 = .ok (.aload_n 0, 1) := by decide +kernel
theorem d_M_init_158 : decode prog_9_method_1_code 158 = .ok (.bipush 16, 2) := by decide +kernel
theorem d_M_init_160 : decode prog_9_method_1_code 160 = .ok (.newarray .int, 2) := by decide +kernel
theorem d_M_init_162 : decode prog_9_method_1_code 162 = .ok (.putfield 68, 3) := by decide +kernel
theorem d_M_init_165 : decode prog_9_method_1_code 165 = .ok (.iconst 0, 1) := by decide +kernel
theorem d_M_init_166 : decode prog_9_method_1_code 166 = .ok (.istore_n 1, 1) := by decide +kernel
theorem d_M_init_167 : decode prog_9_method_1_code 167 = .ok (.iload_n 1, 1) := by decide +kernel
theorem d_M_init_168 : decode prog_9_method_1_code 168 = .ok (.bipush 8, 2) := by decide +kernel
theorem d_M_init_170 : decode prog_9_method_1_code 170 = .ok (.if_icmp .ge 16, 3) := by decide +kernel
theorem d_M_init_173 : decode prog_9_method_1_code 173 = .ok (.aload_n 0, 1) := by decide +kernel
theorem d_M_init_174 : decode prog_9_method_1_code 174 = .ok (.getfield 23, 3) := by decide +kernel
theorem d_M_init_177 : decode prog_9_method_1_code 177 = .ok (.iload_n 1, 1) := by decide +kernel
theorem d_M_init_178 : decode prog_9_method_1_code 178 = .ok (.iconst 2, 1) := by decide +kernel
theorem d_M_init_179 : decode prog_9_method_1_code 179 = .ok (.iastore, 1) := by decide +kernel
theorem d_M_init_180 : decode prog_9_method_1_code 180 = .ok (.iinc 1 1, 3) := by decide +kernel
theorem d_M_init_183 : decode prog_9_method_1_code 183 = .ok (.goto (-16), 3) := by decide +kernel
theorem d_M_init_186 : decode prog_9_method_1_code 186 = .ok (.aload_n 0, 1) := by decide +kernel
theorem d_M_init_187 : decode prog_9_method_1_code 187 = .ok (.invokevirtual 71, 3) := by decide +kernel
theorem d_M_init_190 : decode prog_9_method_1_code 190 = .ok (.return_, 1) := by decide +kernel
theorem d_M_reborn_0 : decode prog_9_method_2_code 0 = .ok (.iconst 0, 1) := by decide +kernel
theorem d_M_reborn_1 : decode prog_9_method_2_code 1 = .ok (.istore_n 1, 1) := by decide +kernel
theorem d_M_reborn_2 : decode prog_9_method_2_code 2 = .ok (.iload_n 1, 1) := by decide +kernel
theorem d_M_reborn_3 : decode prog_9_method_2_code 3 = .ok (.bipush 7, 2) := by decide +kernel
theorem d_M_reborn_5 : decode prog_9_method_2_code 5 = .ok (.if_icmp .ge 32, 3) := by decide +kernel
theorem d_M_reborn_8 : decode prog_9_method_2_code 8 = .ok (.aload_n 0, 1) := by decide +kernel
theorem d_M_reborn_9 : decode prog_9_method_2_code 9 = .ok (.getfield 35, 3) := by decide +kernel
theorem d_M_reborn_12 : decode prog_9_method_2_code 12 = .ok (.iload_n 1, 1) := by decide +kernel
theorem d_M_reborn_13 : decode prog_9_method_2_code 13 = .ok (.iload_n 1, 1) := by decide +kernel
theorem d_M_reborn_14 : decode prog_9_method_2_code 14 = .ok (.iconst 1, 1) := by decide +kernel
theorem d_M_reborn_15 : decode prog_9_method_2_code 15 = .ok (.if_icmp .ne 7, 3) := by decide +kernel
theorem d_M_reborn_18 : decode prog_9_method_2_code 18 = .ok (.iconst 1, 1) := by decide +kernel
theorem d_M_reborn_19 : decode prog_9_method_2_code 19 = .ok (.goto 4, 3) := by decide +kernel
theorem d_M_reborn_22 : decode prog_9_method_2_code 22 = .ok (.iconst 0, 1) := by decide +kernel
theorem d_M_reborn_23 : decode prog_9_method_2_code 23 = .ok (.bastore, 1) := by decide +kernel
theorem d_M_reborn_24 : decode prog_9_method_2_code 24 = .ok (.aload_n 0, 1) := by decide +kernel
theorem d_M_reborn_25 : decode prog_9_method_2_code 25 = .ok (.getfield 38, 3) := by decide +kernel
theorem d_M_reborn_28 : decode prog_9_method_2_code 28 = .ok (.iload_n 1, 1) := by decide +kernel
theorem d_M_reborn_29 : decode prog_9_method_2_code 29 = .ok (.iconst 0, 1) := by decide +kernel
theorem d_M_reborn_30 : decode prog_9_method_2_code 30 = .ok (.bastore, 1) := by decide +kernel
theorem d_M_reborn_31 : decode prog_9_method_2_code 31 = .ok (.iinc 1 1, 3) := by decide +kernel
theorem d_M_reborn_34 : decode prog_9_method_2_code 34 = .ok (.goto (-32), 3) := by decide +kernel
theorem d_M_reborn_37 : decode prog_9_method_2_code 37 = .ok (.iconst 0, 1) := by decide +kernel
theorem d_M_reborn_38 : decode prog_9_method_2_code 38 = .ok (.istore_n 1, 1) := by decide +kernel
theorem d_M_reborn_39 : decode prog_9_method_2_code 39 = .ok (.iload_n 1, 1) := by decide +kernel
theorem d_M_reborn_40 : decode prog_9_method_2_code 40 = .ok (.bipush 42, 2) := by decide +kernel
theorem d_M_reborn_42 : decode prog_9_method_2_code 42 = .ok (.if_icmp .ge 16, 3) := by decide +kernel
theorem d_M_reborn_45 : decode prog_9_method_2_code 45 = .ok (.aload_n 0, 1) := by decide +kernel
theorem d_M_reborn_46 : decode prog_9_method_2_code 46 = .ok (.getfield 47, 3) := by decide +kernel
theorem d_M_reborn_49 : decode prog_9_method_2_code 49 = .ok (.iload_n 1, 1) := by decide +kernel
theorem d_M_reborn_50 : decode prog_9_method_2_code 50 = .ok (.iconst (-1), 1) := by decide +kernel
theorem d_M_reborn_51 : decode prog_9_method_2_code 51 = .ok (.iastore, 1) := by decide +kernel
theorem d_M_reborn_52 : decode prog_9_method_2_code 52 = .ok (.iinc 1 1, 3) := by decide +kernel
theorem d_M_reborn_55 : decode prog_9_method_2_code 55 = .ok (.goto (-16), 3) := by decide +kernel
theorem d_M_reborn_58 : decode prog_9_method_2_code 58 = .ok (.aload_n 0, 1) := by decide +kernel
theorem d_M_reborn_59 : decode prog_9_method_2_code 59 = .ok (.getfield 41, 3) := by decide +kernel
theorem d_M_reborn_62 : decode prog_9_method_2_code 62 = .ok (.iconst 1, 1) := by decide +kernel
theorem d_M_reborn_63 : decode prog_9_method_2_code 63 = .ok (.iconst 0, 1) := by decide +kernel
theorem d_M_reborn_64 : decode prog_9_method_2_code 64 = .ok (.iastore, 1) := by decide +kernel
theorem d_M_reborn_65 : decode prog_9_method_2_code 65 = .ok (.aload_n 0, 1) := by decide +kernel
theorem d_M_reborn_66 : decode prog_9_method_2_code 66 = .ok (.iconst 0, 1) := by decide +kernel
theorem d_M_reborn_67 : decode prog_9_method_2_code 67 = .ok (.putfield 74, 3) := by decide +kernel
theorem d_M_reborn_70 : decode prog_9_method_2_code 70 = .ok (.return_, 1) := by decide +kernel
theorem d_M_put_0 : decode prog_9_method_18_code 0 = .ok (.iload_n 1, 1) := by decide +kernel
theorem d_M_put_1 : decode prog_9_method_18_code 1 = .ok (.iconst 0, 1) := by decide +kernel
theorem d_M_put_2 : decode prog_9_method_18_code 2 = .ok (.bipush 7, 2) := by decide +kernel
theorem d_M_put_4 : decode prog_9_method_18_code 4 = .ok (.invokestatic 78, 3) := by decide +kernel
theorem d_M_put_7 : decode prog_9_method_18_code 7 = .ok (.ifCond .eq 13, 3) := by decide +kernel
theorem d_M_put_10 : decode prog_9_method_18_code 10 = .ok (.iload_n 2, 1) := by decide +kernel
theorem d_M_put_11 : decode prog_9_method_18_code 11 = .ok (.iconst 0, 1) := by decide +kernel
theorem d_M_put_12 : decode prog_9_method_18_code 12 = .ok (.bipush 32, 2) := by decide +kernel
theorem d_M_put_14 : decode prog_9_method_18_code 14 = .ok (.invokestatic 78, 3) := by decide +kernel
theorem d_M_put_17 : decode prog_9_method_18_code 17 = .ok (.ifCond .ne 5, 3) := by decide +kernel
theorem d_M_put_20 : decode prog_9_method_18_code 20 = .ok (.iconst (-1), 1) := by decide +kernel
theorem d_M_put_21 : decode prog_9_method_18_code 21 = .ok (.ireturn, 1) := by decide +kernel
theorem d_M_put_22 : decode prog_9_method_18_code 22 = .ok (.aload_n 0, 1) := by decide +kernel
theorem d_M_put_23 : decode prog_9_method_18_code 23 = .ok (.iload_n 1, 1) := by decide +kernel
theorem d_M_put_24 : decode prog_9_method_18_code 24 = .ok (.invokevirtual 105, 3) := by decide +kernel
theorem d_M_put_27 : decode prog_9_method_18_code 27 = .ok (.istore 4, 2) := by decide +kernel
theorem d_M_put_29 : decode prog_9_method_18_code 29 = .ok (.iconst 0, 1) := by decide +kernel
theorem d_M_put_30 : decode prog_9_method_18_code 30 = .ok (.istore 5, 2) := by decide +kernel
theorem d_M_put_32 : decode prog_9_method_18_code 32 = .ok (.iload 5, 2) := by decide +kernel
theorem d_M_put_34 : decode prog_9_method_18_code 34 = .ok (.aload_n 0, 1) := by decide +kernel
theorem d_M_put_35 : decode prog_9_method_18_code 35 = .ok (.getfield 74, 3) := by decide +kernel
theorem d_M_put_38 : decode prog_9_method_18_code 38 = .ok (.if_icmp .ge 26, 3) := by decide +kernel
theorem d_M_put_41 : decode prog_9_method_18_code 41 = .ok (.aload_n 0, 1) := by decide +kernel
theorem d_M_put_42 : decode prog_9_method_18_code 42 = .ok (.getfield 26, 3) := by decide +kernel
theorem d_M_put_45 : decode prog_9_method_18_code 45 = .ok (.iload 5, 2) := by decide +kernel
theorem d_M_put_47 : decode prog_9_method_18_code 47 = .ok (.iaload, 1) := by decide +kernel
theorem d_M_put_48 : decode prog_9_method_18_code 48 = .ok (.bipush 7, 2) := by decide +kernel
theorem d_M_put_50 : decode prog_9_method_18_code 50 = .ok (.iand, 1) := by decide +kernel
theorem d_M_put_51 : decode prog_9_method_18_code 51 = .ok (.iload_n 1, 1) := by decide +kernel
theorem d_M_put_52 : decode prog_9_method_18_code 52 = .ok (.if_icmp .ne 6, 3) := by decide +kernel
theorem d_M_put_55 : decode prog_9_method_18_code 55 = .ok (.iconst 1, 1) := by decide +kernel
theorem d_M_put_56 : decode prog_9_method_18_code 56 = .ok (.istore 4, 2) := by decide +kernel
theorem d_M_put_58 : decode prog_9_method_18_code 58 = .ok (.iinc 5 1, 3) := by decide +kernel
theorem d_M_put_61 : decode prog_9_method_18_code 61 = .ok (.goto (-29), 3) := by decide +kernel
theorem d_M_put_64 : decode prog_9_method_18_code 64 = .ok (.iload 4, 2) := by decide +kernel
theorem d_M_put_66 : decode prog_9_method_18_code 66 = .ok (.ifCond .eq 6, 3) := by decide +kernel
theorem d_M_put_69 : decode prog_9_method_18_code 69 = .ok (.bipush (-9), 2) := by decide +kernel
theorem d_M_put_71 : decode prog_9_method_18_code 71 = .ok (.ireturn, 1) := by decide +kernel
theorem d_M_put_72 : decode prog_9_method_18_code 72 = .ok (.aload_n 0, 1) := by decide +kernel
theorem d_M_put_73 : decode prog_9_method_18_code 73 = .ok (.iload_n 1, 1) := by decide +kernel
theorem d_M_put_74 : decode prog_9_method_18_code 74 = .ok (.invokevirtual 108, 3) := by decide +kernel
theorem d_M_put_77 : decode prog_9_method_18_code 77 = .ok (.aload_n 0, 1) := by decide +kernel
theorem d_M_put_78 : decode prog_9_method_18_code 78 = .ok (.getfield 7, 3) := by decide +kernel
theorem d_M_put_81 : decode prog_9_method_18_code 81 = .ok (.iload_n 1, 1) := by decide +kernel
theorem d_M_put_82 : decode prog_9_method_18_code 82 = .ok (.iconst 1, 1) := by decide +kernel
theorem d_M_put_83 : decode prog_9_method_18_code 83 = .ok (.bastore, 1) := by decide +kernel
theorem d_M_put_84 : decode prog_9_method_18_code 84 = .ok (.aload_n 0, 1) := by decide +kernel
theorem d_M_put_85 : decode prog_9_method_18_code 85 = .ok (.getfield 13, 3) := by decide +kernel
theorem d_M_put_88 : decode prog_9_method_18_code 88 = .ok (.iload_n 1, 1) := by decide +kernel
theorem d_M_put_89 : decode prog_9_method_18_code 89 = .ok (.iload_n 2, 1) := by decide +kernel
theorem d_M_put_90 : decode prog_9_method_18_code 90 = .ok (.iastore, 1) := by decide +kernel
theorem d_M_put_91 : decode prog_9_method_18_code 91 = .ok (.aload_n 0, 1) := by decide +kernel
theorem d_M_put_92 : decode prog_9_method_18_code 92 = .ok (.getfield 20, 3) := by decide +kernel
theorem d_M_put_95 : decode prog_9_method_18_code 95 = .ok (.iload_n 1, 1) := by decide +kernel
theorem d_M_put_96 : decode prog_9_method_18_code 96 = .ok (.iload_n 2, 1) := by decide +kernel
theorem d_M_put_97 : decode prog_9_method_18_code 97 = .ok (.iastore, 1) := by decide +kernel
theorem d_M_put_98 : decode prog_9_method_18_code 98 = .ok (.iconst 0, 1) := by decide +kernel
theorem d_M_put_99 : decode prog_9_method_18_code 99 = .ok (.istore 5, 2) := by decide +kernel
theorem d_M_put_101 : decode prog_9_method_18_code 101 = .ok (.iload 5, 2) := by decide +kernel
theorem d_M_put_103 : decode prog_9_method_18_code 103 = .ok (.iload_n 2, 1) := by decide +kernel
theorem d_M_put_104 : decode prog_9_method_18_code 104 = .ok (.if_icmp .ge 32, 3) := by decide +kernel
theorem d_M_put_107 : decode prog_9_method_18_code 107 = .ok (.aload_n 0, 1) := by decide +kernel
theorem d_M_put_108 : decode prog_9_method_18_code 108 = .ok (.getfield 17, 3) := by decide +kernel
theorem d_M_put_111 : decode prog_9_method_18_code 111 = .ok (.bipush 32, 2) := by decide +kernel
theorem d_M_put_113 : decode prog_9_method_18_code 113 = .ok (.iload_n 1, 1) := by decide +kernel
theorem d_M_put_114 : decode prog_9_method_18_code 114 = .ok (.imul, 1) := by decide +kernel
theorem d_M_put_115 : decode prog_9_method_18_code 115 = .ok (.iload 5, 2) := by decide +kernel
theorem d_M_put_117 : decode prog_9_method_18_code 117 = .ok (.iadd, 1) := by decide +kernel
theorem d_M_put_118 : decode prog_9_method_18_code 118 = .ok (.iload_n 3, 1) := by decide +kernel
theorem d_M_put_119 : decode prog_9_method_18_code 119 = .ok (.bipush 7, 2) := by decide +kernel
theorem d_M_put_121 : decode prog_9_method_18_code 121 = .ok (.iload 5, 2) := by decide +kernel
theorem d_M_put_123 : decode prog_9_method_18_code 123 = .ok (.imul, 1) := by decide +kernel
theorem d_M_put_124 : decode prog_9_method_18_code 124 = .ok (.iadd, 1) := by decide +kernel
theorem d_M_put_125 : decode prog_9_method_18_code 125 = .ok (.sipush 255, 3) := by decide +kernel
theorem d_M_put_128 : decode prog_9_method_18_code 128 = .ok (.iand, 1) := by decide +kernel
theorem d_M_put_129 : decode prog_9_method_18_code 129 = .ok (.iastore, 1) := by decide +kernel
theorem d_M_put_130 : decode prog_9_method_18_code 130 = .ok (.iinc 5 1, 3) := by decide +kernel
theorem d_M_put_133 : decode prog_9_method_18_code 133 = .ok (.goto (-32), 3) := by decide +kernel
theorem d_M_put_136 : decode prog_9_method_18_code 136 = .ok (.iconst 0, 1) := by decide +kernel
theorem d_M_put_137 : decode prog_9_method_18_code 137 = .ok (.ireturn, 1) := by decide +kernel
theorem d_M_in_0 : decode prog_9_method_3_code 0 = .ok (.iload_n 0, 1) := by decide +kernel
theorem d_M_in_1 : decode prog_9_method_3_code 1 = .ok (.iload_n 1, 1) := by decide +kernel
theorem d_M_in_2 : decode prog_9_method_3_code 2 = .ok (.if_icmp .lt 12, 3) := by decide +kernel
theorem d_M_in_5 : decode prog_9_method_3_code 5 = .ok (.iload_n 0, 1) := by decide +kernel
theorem d_M_in_6 : decode prog_9_method_3_code 6 = .ok (.iload_n 2, 1) := by decide +kernel
theorem d_M_in_7 : decode prog_9_method_3_code 7 = .ok (.if_icmp .gt 7, 3) := by decide +kernel
theorem d_M_in_10 : decode prog_9_method_3_code 10 = .ok (.iconst 1, 1) := by decide +kernel
theorem d_M_in_11 : decode prog_9_method_3_code 11 = .ok (.goto 4, 3) := by decide +kernel
theorem d_M_in_14 : decode prog_9_method_3_code 14 = .ok (.iconst 0, 1) := by decide +kernel
theorem d_M_in_15 : decode prog_9_method_3_code 15 = .ok (.ireturn, 1) := by decide +kernel
theorem d_M_openFile_0 : decode prog_9_method_7_code 0 = .ok (.iconst 0, 1) := by decide +kernel
theorem d_M_openFile_1 : decode prog_9_method_7_code 1 = .ok (.istore_n 2, 1) := by decide +kernel
theorem d_M_openFile_2 : decode prog_9_method_7_code 2 = .ok (.iload_n 2, 1) := by decide +kernel
theorem d_M_openFile_3 : decode prog_9_method_7_code 3 = .ok (.bipush 16, 2) := by decide +kernel
theorem d_M_openFile_5 : decode prog_9_method_7_code 5 = .ok (.if_icmp .ge 38, 3) := by decide +kernel
theorem d_M_openFile_8 : decode prog_9_method_7_code 8 = .ok (.aload_n 0, 1) := by decide +kernel
theorem d_M_openFile_9 : decode prog_9_method_7_code 9 = .ok (.iload_n 2, 1) := by decide +kernel
theorem d_M_openFile_10 : decode prog_9_method_7_code 10 = .ok (.invokevirtual 82, 3) := by decide +kernel
theorem d_M_openFile_13 : decode prog_9_method_7_code 13 = .ok (.ifCond .eq 24, 3) := by decide +kernel
theorem d_M_openFile_16 : decode prog_9_method_7_code 16 = .ok (.aload_n 0, 1) := by decide +kernel
theorem d_M_openFile_17 : decode prog_9_method_7_code 17 = .ok (.getfield 50, 3) := by decide +kernel
theorem d_M_openFile_20 : decode prog_9_method_7_code 20 = .ok (.iload_n 2, 1) := by decide +kernel
theorem d_M_openFile_21 : decode prog_9_method_7_code 21 = .ok (.iaload, 1) := by decide +kernel
theorem d_M_openFile_22 : decode prog_9_method_7_code 22 = .ok (.ifCond .ne 15, 3) := by decide +kernel
theorem d_M_openFile_25 : decode prog_9_method_7_code 25 = .ok (.aload_n 0, 1) := by decide +kernel
theorem d_M_openFile_26 : decode prog_9_method_7_code 26 = .ok (.getfield 53, 3) := by decide +kernel
theorem d_M_openFile_29 : decode prog_9_method_7_code 29 = .ok (.iload_n 2, 1) := by decide +kernel
theorem d_M_openFile_30 : decode prog_9_method_7_code 30 = .ok (.iaload, 1) := by decide +kernel
theorem d_M_openFile_31 : decode prog_9_method_7_code 31 = .ok (.iload_n 1, 1) := by decide +kernel
theorem d_M_openFile_32 : decode prog_9_method_7_code 32 = .ok (.if_icmp .ne 5, 3) := by decide +kernel
theorem d_M_openFile_35 : decode prog_9_method_7_code 35 = .ok (.iconst 1, 1) := by decide +kernel
theorem d_M_openFile_36 : decode prog_9_method_7_code 36 = .ok (.ireturn, 1) := by decide +kernel
theorem d_M_openFile_37 : decode prog_9_method_7_code 37 = .ok (.iinc 2 1, 3) := by decide +kernel
theorem d_M_openFile_40 : decode prog_9_method_7_code 40 = .ok (.goto (-38), 3) := by decide +kernel
theorem d_M_openFile_43 : decode prog_9_method_7_code 43 = .ok (.iconst 0, 1) := by decide +kernel
theorem d_M_openFile_44 : decode prog_9_method_7_code 44 = .ok (.ireturn, 1) := by decide +kernel
theorem d_M_used_0 : decode prog_9_method_5_code 0 = .ok (.bipush 6, 2) := by decide +kernel
theorem d_M_used_2 : decode prog_9_method_5_code 2 = .ok (.istore_n 2, 1) := by decide +kernel
theorem d_M_used_3 : decode prog_9_method_5_code 3 = .ok (.iload_n 2, 1) := by decide +kernel
theorem d_M_used_4 : decode prog_9_method_5_code 4 = .ok (.bipush 42, 2) := by decide +kernel
theorem d_M_used_6 : decode prog_9_method_5_code 6 = .ok (.if_icmp .ge 21, 3) := by decide +kernel
theorem d_M_used_9 : decode prog_9_method_5_code 9 = .ok (.aload_n 0, 1) := by decide +kernel
theorem d_M_used_10 : decode prog_9_method_5_code 10 = .ok (.getfield 47, 3) := by decide +kernel
theorem d_M_used_13 : decode prog_9_method_5_code 13 = .ok (.iload_n 2, 1) := by decide +kernel
theorem d_M_used_14 : decode prog_9_method_5_code 14 = .ok (.iaload, 1) := by decide +kernel
theorem d_M_used_15 : decode prog_9_method_5_code 15 = .ok (.iload_n 1, 1) := by decide +kernel
theorem d_M_used_16 : decode prog_9_method_5_code 16 = .ok (.if_icmp .ne 5, 3) := by decide +kernel
theorem d_M_used_19 : decode prog_9_method_5_code 19 = .ok (.iconst 1, 1) := by decide +kernel
theorem d_M_used_20 : decode prog_9_method_5_code 20 = .ok (.ireturn, 1) := by decide +kernel
theorem d_M_used_21 : decode prog_9_method_5_code 21 = .ok (.iinc 2 1, 3) := by decide +kernel
theorem d_M_used_24 : decode prog_9_method_5_code 24 = .ok (.goto (-21), 3) := by decide +kernel
theorem d_M_used_27 : decode prog_9_method_5_code 27 = .ok (.iconst 0, 1) := by decide +kernel
theorem d_M_used_28 : decode prog_9_method_5_code 28 = .ok (.ireturn, 1) := by decide +kernel
theorem d_M_wipeHost_0 : decode prog_9_method_14_code 0 = .ok (.aload_n 0, 1) := by decide +kernel
theorem d_M_wipeHost_1 : decode prog_9_method_14_code 1 = .ok (.getfield 13, 3) := by decide +kernel
theorem d_M_wipeHost_4 : decode prog_9_method_14_code 4 = .ok (.iload_n 1, 1) := by decide +kernel
theorem d_M_wipeHost_5 : decode prog_9_method_14_code 5 = .ok (.iconst 0, 1) := by decide +kernel
theorem d_M_wipeHost_6 : decode prog_9_method_14_code 6 = .ok (.iastore, 1) := by decide +kernel
theorem d_M_wipeHost_7 : decode prog_9_method_14_code 7 = .ok (.iconst 0, 1) := by decide +kernel
theorem d_M_wipeHost_8 : decode prog_9_method_14_code 8 = .ok (.istore_n 2, 1) := by decide +kernel
theorem d_M_wipeHost_9 : decode prog_9_method_14_code 9 = .ok (.iload_n 2, 1) := by decide +kernel
theorem d_M_wipeHost_10 : decode prog_9_method_14_code 10 = .ok (.bipush 32, 2) := by decide +kernel
theorem d_M_wipeHost_12 : decode prog_9_method_14_code 12 = .ok (.if_icmp .ge 21, 3) := by decide +kernel
theorem d_M_wipeHost_15 : decode prog_9_method_14_code 15 = .ok (.aload_n 0, 1) := by decide +kernel
theorem d_M_wipeHost_16 : decode prog_9_method_14_code 16 = .ok (.getfield 17, 3) := by decide +kernel
theorem d_M_wipeHost_19 : decode prog_9_method_14_code 19 = .ok (.bipush 32, 2) := by decide +kernel
theorem d_M_wipeHost_21 : decode prog_9_method_14_code 21 = .ok (.iload_n 1, 1) := by decide +kernel
theorem d_M_wipeHost_22 : decode prog_9_method_14_code 22 = .ok (.imul, 1) := by decide +kernel
theorem d_M_wipeHost_23 : decode prog_9_method_14_code 23 = .ok (.iload_n 2, 1) := by decide +kernel
theorem d_M_wipeHost_24 : decode prog_9_method_14_code 24 = .ok (.iadd, 1) := by decide +kernel
theorem d_M_wipeHost_25 : decode prog_9_method_14_code 25 = .ok (.iconst 0, 1) := by decide +kernel
theorem d_M_wipeHost_26 : decode prog_9_method_14_code 26 = .ok (.iastore, 1) := by decide +kernel
theorem d_M_wipeHost_27 : decode prog_9_method_14_code 27 = .ok (.iinc 2 1, 3) := by decide +kernel
theorem d_M_wipeHost_30 : decode prog_9_method_14_code 30 = .ok (.goto (-21), 3) := by decide +kernel
theorem d_M_wipeHost_33 : decode prog_9_method_14_code 33 = .ok (.return_, 1) := by decide +kernel
theorem d_M_policy_0 : decode prog_9_method_19_code 0 = .ok (.iload_n 1, 1) := by decide +kernel
theorem d_M_policy_1 : decode prog_9_method_19_code 1 = .ok (.iconst 0, 1) := by decide +kernel
theorem d_M_policy_2 : decode prog_9_method_19_code 2 = .ok (.bipush 7, 2) := by decide +kernel
theorem d_M_policy_4 : decode prog_9_method_19_code 4 = .ok (.invokestatic 78, 3) := by decide +kernel
theorem d_M_policy_7 : decode prog_9_method_19_code 7 = .ok (.ifCond .eq 12, 3) := by decide +kernel
theorem d_M_policy_10 : decode prog_9_method_19_code 10 = .ok (.iload_n 2, 1) := by decide +kernel
theorem d_M_policy_11 : decode prog_9_method_19_code 11 = .ok (.iconst 0, 1) := by decide +kernel
theorem d_M_policy_12 : decode prog_9_method_19_code 12 = .ok (.iconst 2, 1) := by decide +kernel
theorem d_M_policy_13 : decode prog_9_method_19_code 13 = .ok (.invokestatic 78, 3) := by decide +kernel
theorem d_M_policy_16 : decode prog_9_method_19_code 16 = .ok (.ifCond .ne 5, 3) := by decide +kernel
theorem d_M_policy_19 : decode prog_9_method_19_code 19 = .ok (.iconst (-1), 1) := by decide +kernel
theorem d_M_policy_20 : decode prog_9_method_19_code 20 = .ok (.ireturn, 1) := by decide +kernel
theorem d_M_policy_21 : decode prog_9_method_19_code 21 = .ok (.aload_n 0, 1) := by decide +kernel
theorem d_M_policy_22 : decode prog_9_method_19_code 22 = .ok (.getfield 23, 3) := by decide +kernel
theorem d_M_policy_25 : decode prog_9_method_19_code 25 = .ok (.iload_n 1, 1) := by decide +kernel
theorem d_M_policy_26 : decode prog_9_method_19_code 26 = .ok (.iload_n 2, 1) := by decide +kernel
theorem d_M_policy_27 : decode prog_9_method_19_code 27 = .ok (.iastore, 1) := by decide +kernel
theorem d_M_policy_28 : decode prog_9_method_19_code 28 = .ok (.iconst 0, 1) := by decide +kernel
theorem d_M_policy_29 : decode prog_9_method_19_code 29 = .ok (.ireturn, 1) := by decide +kernel
theorem d_M_failing_0 : decode prog_9_method_20_code 0 = .ok (.iload_n 1, 1) := by decide +kernel
theorem d_M_failing_1 : decode prog_9_method_20_code 1 = .ok (.iconst 0, 1) := by decide +kernel
theorem d_M_failing_2 : decode prog_9_method_20_code 2 = .ok (.bipush 9, 2) := by decide +kernel
theorem d_M_failing_4 : decode prog_9_method_20_code 4 = .ok (.invokestatic 78, 3) := by decide +kernel
theorem d_M_failing_7 : decode prog_9_method_20_code 7 = .ok (.ifCond .ne 5, 3) := by decide +kernel
theorem d_M_failing_10 : decode prog_9_method_20_code 10 = .ok (.iconst (-1), 1) := by decide +kernel
theorem d_M_failing_11 : decode prog_9_method_20_code 11 = .ok (.ireturn, 1) := by decide +kernel
theorem d_M_failing_12 : decode prog_9_method_20_code 12 = .ok (.aload_n 0, 1) := by decide +kernel
theorem d_M_failing_13 : decode prog_9_method_20_code 13 = .ok (.iload_n 1, 1) := by decide +kernel
theorem d_M_failing_14 : decode prog_9_method_20_code 14 = .ok (.putfield 89, 3) := by decide +kernel
theorem d_M_failing_17 : decode prog_9_method_20_code 17 = .ok (.iconst 0, 1) := by decide +kernel
theorem d_M_failing_18 : decode prog_9_method_20_code 18 = .ok (.ireturn, 1) := by decide +kernel
theorem d_M_open_0 : decode prog_9_method_21_code 0 = .ok (.aload_n 0, 1) := by decide +kernel
theorem d_M_open_1 : decode prog_9_method_21_code 1 = .ok (.iload_n 1, 1) := by decide +kernel
theorem d_M_open_2 : decode prog_9_method_21_code 2 = .ok (.invokevirtual 86, 3) := by decide +kernel
theorem d_M_open_5 : decode prog_9_method_21_code 5 = .ok (.ifCond .eq 23, 3) := by decide +kernel
theorem d_M_open_8 : decode prog_9_method_21_code 8 = .ok (.iload_n 2, 1) := by decide +kernel
theorem d_M_open_9 : decode prog_9_method_21_code 9 = .ok (.iconst 0, 1) := by decide +kernel
theorem d_M_open_10 : decode prog_9_method_21_code 10 = .ok (.bipush 7, 2) := by decide +kernel
theorem d_M_open_12 : decode prog_9_method_21_code 12 = .ok (.invokestatic 78, 3) := by decide +kernel
theorem d_M_open_15 : decode prog_9_method_21_code 15 = .ok (.ifCond .eq 13, 3) := by decide +kernel
theorem d_M_open_18 : decode prog_9_method_21_code 18 = .ok (.iload_n 3, 1) := by decide +kernel
theorem d_M_open_19 : decode prog_9_method_21_code 19 = .ok (.iconst 0, 1) := by decide +kernel
theorem d_M_open_20 : decode prog_9_method_21_code 20 = .ok (.bipush 31, 2) := by decide +kernel
theorem d_M_open_22 : decode prog_9_method_21_code 22 = .ok (.invokestatic 78, 3) := by decide +kernel
theorem d_M_open_25 : decode prog_9_method_21_code 25 = .ok (.ifCond .ne 5, 3) := by decide +kernel
theorem d_M_open_28 : decode prog_9_method_21_code 28 = .ok (.iconst (-1), 1) := by decide +kernel
theorem d_M_open_29 : decode prog_9_method_21_code 29 = .ok (.ireturn, 1) := by decide +kernel
theorem d_M_open_30 : decode prog_9_method_21_code 30 = .ok (.aload_n 0, 1) := by decide +kernel
theorem d_M_open_31 : decode prog_9_method_21_code 31 = .ok (.getfield 23, 3) := by decide +kernel
theorem d_M_open_34 : decode prog_9_method_21_code 34 = .ok (.iload_n 2, 1) := by decide +kernel
theorem d_M_open_35 : decode prog_9_method_21_code 35 = .ok (.iaload, 1) := by decide +kernel
theorem d_M_open_36 : decode prog_9_method_21_code 36 = .ok (.ifCond .eq 19, 3) := by decide +kernel
theorem d_M_open_39 : decode prog_9_method_21_code 39 = .ok (.aload_n 0, 1) := by decide +kernel
theorem d_M_open_40 : decode prog_9_method_21_code 40 = .ok (.getfield 7, 3) := by decide +kernel
theorem d_M_open_43 : decode prog_9_method_21_code 43 = .ok (.iload_n 2, 1) := by decide +kernel
theorem d_M_open_44 : decode prog_9_method_21_code 44 = .ok (.baload, 1) := by decide +kernel
theorem d_M_open_45 : decode prog_9_method_21_code 45 = .ok (.ifCond .ne 13, 3) := by decide +kernel
theorem d_M_open_48 : decode prog_9_method_21_code 48 = .ok (.iload_n 3, 1) := by decide +kernel
theorem d_M_open_49 : decode prog_9_method_21_code 49 = .ok (.bipush 8, 2) := by decide +kernel
theorem d_M_open_51 : decode prog_9_method_21_code 51 = .ok (.iand, 1) := by decide +kernel
theorem d_M_open_52 : decode prog_9_method_21_code 52 = .ok (.ifCond .ne 6, 3) := by decide +kernel
theorem d_M_open_55 : decode prog_9_method_21_code 55 = .ok (.bipush (-4), 2) := by decide +kernel
theorem d_M_open_57 : decode prog_9_method_21_code 57 = .ok (.ireturn, 1) := by decide +kernel
theorem d_M_open_58 : decode prog_9_method_21_code 58 = .ok (.aload_n 0, 1) := by decide +kernel
theorem d_M_open_59 : decode prog_9_method_21_code 59 = .ok (.getfield 23, 3) := by decide +kernel
theorem d_M_open_62 : decode prog_9_method_21_code 62 = .ok (.iload_n 2, 1) := by decide +kernel
theorem d_M_open_63 : decode prog_9_method_21_code 63 = .ok (.iaload, 1) := by decide +kernel
theorem d_M_open_64 : decode prog_9_method_21_code 64 = .ok (.iconst 1, 1) := by decide +kernel
theorem d_M_open_65 : decode prog_9_method_21_code 65 = .ok (.if_icmp .ne 11, 3) := by decide +kernel
theorem d_M_open_68 : decode prog_9_method_21_code 68 = .ok (.iload_n 3, 1) := by decide +kernel
theorem d_M_open_69 : decode prog_9_method_21_code 69 = .ok (.iconst 1, 1) := by decide +kernel
theorem d_M_open_70 : decode prog_9_method_21_code 70 = .ok (.if_icmp .le 6, 3) := by decide +kernel
theorem d_M_open_73 : decode prog_9_method_21_code 73 = .ok (.bipush (-5), 2) := by decide +kernel
theorem d_M_open_75 : decode prog_9_method_21_code 75 = .ok (.ireturn, 1) := by decide +kernel
theorem d_M_open_76 : decode prog_9_method_21_code 76 = .ok (.aload_n 0, 1) := by decide +kernel
theorem d_M_open_77 : decode prog_9_method_21_code 77 = .ok (.iload_n 1, 1) := by decide +kernel
theorem d_M_open_78 : decode prog_9_method_21_code 78 = .ok (.iconst 0, 1) := by decide +kernel
theorem d_M_open_79 : decode prog_9_method_21_code 79 = .ok (.invokevirtual 111, 3) := by decide +kernel
theorem d_M_open_82 : decode prog_9_method_21_code 82 = .ok (.istore 4, 2) := by decide +kernel
theorem d_M_open_84 : decode prog_9_method_21_code 84 = .ok (.iload 4, 2) := by decide +kernel
theorem d_M_open_86 : decode prog_9_method_21_code 86 = .ok (.ifCond .lt 12, 3) := by decide +kernel
theorem d_M_open_89 : decode prog_9_method_21_code 89 = .ok (.aload_n 0, 1) := by decide +kernel
theorem d_M_open_90 : decode prog_9_method_21_code 90 = .ok (.invokevirtual 115, 3) := by decide +kernel
theorem d_M_open_93 : decode prog_9_method_21_code 93 = .ok (.bipush 16, 2) := by decide +kernel
theorem d_M_open_95 : decode prog_9_method_21_code 95 = .ok (.if_icmp .ne 6, 3) := by decide +kernel
theorem d_M_open_98 : decode prog_9_method_21_code 98 = .ok (.bipush (-2), 2) := by decide +kernel
theorem d_M_open_100 : decode prog_9_method_21_code 100 = .ok (.ireturn, 1) := by decide +kernel
theorem d_M_open_101 : decode prog_9_method_21_code 101 = .ok (.aload_n 0, 1) := by decide +kernel
theorem d_M_open_102 : decode prog_9_method_21_code 102 = .ok (.getfield 7, 3) := by decide +kernel
theorem d_M_open_105 : decode prog_9_method_21_code 105 = .ok (.iload_n 2, 1) := by decide +kernel
theorem d_M_open_106 : decode prog_9_method_21_code 106 = .ok (.baload, 1) := by decide +kernel
theorem d_M_open_107 : decode prog_9_method_21_code 107 = .ok (.ifCond .ne 38, 3) := by decide +kernel
theorem d_M_open_110 : decode prog_9_method_21_code 110 = .ok (.aload_n 0, 1) := by decide +kernel
theorem d_M_open_111 : decode prog_9_method_21_code 111 = .ok (.iconst 2, 1) := by decide +kernel
theorem d_M_open_112 : decode prog_9_method_21_code 112 = .ok (.iload_n 2, 1) := by decide +kernel
theorem d_M_open_113 : decode prog_9_method_21_code 113 = .ok (.iconst 0, 1) := by decide +kernel
theorem d_M_open_114 : decode prog_9_method_21_code 114 = .ok (.invokevirtual 95, 3) := by decide +kernel
theorem d_M_open_117 : decode prog_9_method_21_code 117 = .ok (.ifCond .ne 6, 3) := by decide +kernel
theorem d_M_open_120 : decode prog_9_method_21_code 120 = .ok (.bipush (-8), 2) := by decide +kernel
theorem d_M_open_122 : decode prog_9_method_21_code 122 = .ok (.ireturn, 1) := by decide +kernel
theorem d_M_open_123 : decode prog_9_method_21_code 123 = .ok (.aload_n 0, 1) := by decide +kernel
theorem d_M_open_124 : decode prog_9_method_21_code 124 = .ok (.getfield 7, 3) := by decide +kernel
theorem d_M_open_127 : decode prog_9_method_21_code 127 = .ok (.iload_n 2, 1) := by decide +kernel
theorem d_M_open_128 : decode prog_9_method_21_code 128 = .ok (.iconst 1, 1) := by decide +kernel
theorem d_M_open_129 : decode prog_9_method_21_code 129 = .ok (.bastore, 1) := by decide +kernel
theorem d_M_open_130 : decode prog_9_method_21_code 130 = .ok (.aload_n 0, 1) := by decide +kernel
theorem d_M_open_131 : decode prog_9_method_21_code 131 = .ok (.iload_n 2, 1) := by decide +kernel
theorem d_M_open_132 : decode prog_9_method_21_code 132 = .ok (.invokevirtual 108, 3) := by decide +kernel
theorem d_M_open_135 : decode prog_9_method_21_code 135 = .ok (.aload_n 0, 1) := by decide +kernel
theorem d_M_open_136 : decode prog_9_method_21_code 136 = .ok (.getfield 20, 3) := by decide +kernel
theorem d_M_open_139 : decode prog_9_method_21_code 139 = .ok (.iload_n 2, 1) := by decide +kernel
theorem d_M_open_140 : decode prog_9_method_21_code 140 = .ok (.iconst 0, 1) := by decide +kernel
theorem d_M_open_141 : decode prog_9_method_21_code 141 = .ok (.iastore, 1) := by decide +kernel
theorem d_M_open_142 : decode prog_9_method_21_code 142 = .ok (.goto 40, 3) := by decide +kernel
theorem d_M_open_145 : decode prog_9_method_21_code 145 = .ok (.iload_n 3, 1) := by decide +kernel
theorem d_M_open_146 : decode prog_9_method_21_code 146 = .ok (.bipush 16, 2) := by decide +kernel
theorem d_M_open_148 : decode prog_9_method_21_code 148 = .ok (.iand, 1) := by decide +kernel
theorem d_M_open_149 : decode prog_9_method_21_code 149 = .ok (.ifCond .eq 33, 3) := by decide +kernel
theorem d_M_open_152 : decode prog_9_method_21_code 152 = .ok (.aload_n 0, 1) := by decide +kernel
theorem d_M_open_153 : decode prog_9_method_21_code 153 = .ok (.iconst 3, 1) := by decide +kernel
theorem d_M_open_154 : decode prog_9_method_21_code 154 = .ok (.iload_n 2, 1) := by decide +kernel
theorem d_M_open_155 : decode prog_9_method_21_code 155 = .ok (.iconst 0, 1) := by decide +kernel
theorem d_M_open_156 : decode prog_9_method_21_code 156 = .ok (.invokevirtual 95, 3) := by decide +kernel
theorem d_M_open_159 : decode prog_9_method_21_code 159 = .ok (.ifCond .ne 6, 3) := by decide +kernel
theorem d_M_open_162 : decode prog_9_method_21_code 162 = .ok (.bipush (-8), 2) := by decide +kernel
theorem d_M_open_164 : decode prog_9_method_21_code 164 = .ok (.ireturn, 1) := by decide +kernel
theorem d_M_open_165 : decode prog_9_method_21_code 165 = .ok (.aload_n 0, 1) := by decide +kernel
theorem d_M_open_166 : decode prog_9_method_21_code 166 = .ok (.iload_n 2, 1) := by decide +kernel
theorem d_M_open_167 : decode prog_9_method_21_code 167 = .ok (.invokevirtual 108, 3) := by decide +kernel
theorem d_M_open_170 : decode prog_9_method_21_code 170 = .ok (.aload_n 0, 1) := by decide +kernel
theorem d_M_open_171 : decode prog_9_method_21_code 171 = .ok (.getfield 20, 3) := by decide +kernel
theorem d_M_open_174 : decode prog_9_method_21_code 174 = .ok (.iload_n 2, 1) := by decide +kernel
theorem d_M_open_175 : decode prog_9_method_21_code 175 = .ok (.iconst 0, 1) := by decide +kernel
theorem d_M_open_176 : decode prog_9_method_21_code 176 = .ok (.iastore, 1) := by decide +kernel
theorem d_M_open_177 : decode prog_9_method_21_code 177 = .ok (.aload_n 0, 1) := by decide +kernel
theorem d_M_open_178 : decode prog_9_method_21_code 178 = .ok (.iload_n 2, 1) := by decide +kernel
theorem d_M_open_179 : decode prog_9_method_21_code 179 = .ok (.invokevirtual 119, 3) := by decide +kernel
theorem d_M_open_182 : decode prog_9_method_21_code 182 = .ok (.aload_n 0, 1) := by decide +kernel
theorem d_M_open_183 : decode prog_9_method_21_code 183 = .ok (.getfield 47, 3) := by decide +kernel
theorem d_M_open_186 : decode prog_9_method_21_code 186 = .ok (.bipush 6, 2) := by decide +kernel
theorem d_M_open_188 : decode prog_9_method_21_code 188 = .ok (.iload_n 1, 1) := by decide +kernel
theorem d_M_open_189 : decode prog_9_method_21_code 189 = .ok (.imul, 1) := by decide +kernel
theorem d_M_open_190 : decode prog_9_method_21_code 190 = .ok (.iload 4, 2) := by decide +kernel
theorem d_M_open_192 : decode prog_9_method_21_code 192 = .ok (.iadd, 1) := by decide +kernel
theorem d_M_open_193 : decode prog_9_method_21_code 193 = .ok (.aload_n 0, 1) := by decide +kernel
theorem d_M_open_194 : decode prog_9_method_21_code 194 = .ok (.iconst 0, 1) := by decide +kernel
theorem d_M_open_195 : decode prog_9_method_21_code 195 = .ok (.iload_n 2, 1) := by decide +kernel
theorem d_M_open_196 : decode prog_9_method_21_code 196 = .ok (.iload_n 3, 1) := by decide +kernel
theorem d_M_open_197 : decode prog_9_method_21_code 197 = .ok (.invokevirtual 122, 3) := by decide +kernel
theorem d_M_open_200 : decode prog_9_method_21_code 200 = .ok (.iastore, 1) := by decide +kernel
theorem d_M_open_201 : decode prog_9_method_21_code 201 = .ok (.iload 4, 2) := by decide +kernel
theorem d_M_open_203 : decode prog_9_method_21_code 203 = .ok (.ireturn, 1) := by decide +kernel
theorem d_M_alive_0 : decode prog_9_method_4_code 0 = .ok (.iload_n 1, 1) := by decide +kernel
theorem d_M_alive_1 : decode prog_9_method_4_code 1 = .ok (.iconst 1, 1) := by decide +kernel
theorem d_M_alive_2 : decode prog_9_method_4_code 2 = .ok (.bipush 6, 2) := by decide +kernel
theorem d_M_alive_4 : decode prog_9_method_4_code 4 = .ok (.invokestatic 78, 3) := by decide +kernel
theorem d_M_alive_7 : decode prog_9_method_4_code 7 = .ok (.ifCond .eq 25, 3) := by decide +kernel
theorem d_M_alive_10 : decode prog_9_method_4_code 10 = .ok (.aload_n 0, 1) := by decide +kernel
theorem d_M_alive_11 : decode prog_9_method_4_code 11 = .ok (.getfield 35, 3) := by decide +kernel
theorem d_M_alive_14 : decode prog_9_method_4_code 14 = .ok (.iload_n 1, 1) := by decide +kernel
theorem d_M_alive_15 : decode prog_9_method_4_code 15 = .ok (.baload, 1) := by decide +kernel
theorem d_M_alive_16 : decode prog_9_method_4_code 16 = .ok (.ifCond .eq 16, 3) := by decide +kernel
theorem d_M_alive_19 : decode prog_9_method_4_code 19 = .ok (.aload_n 0, 1) := by decide +kernel
theorem d_M_alive_20 : decode prog_9_method_4_code 20 = .ok (.getfield 38, 3) := by decide +kernel
theorem d_M_alive_23 : decode prog_9_method_4_code 23 = .ok (.iload_n 1, 1) := by decide +kernel
theorem d_M_alive_24 : decode prog_9_method_4_code 24 = .ok (.baload, 1) := by decide +kernel
theorem d_M_alive_25 : decode prog_9_method_4_code 25 = .ok (.ifCond .ne 7, 3) := by decide +kernel
theorem d_M_alive_28 : decode prog_9_method_4_code 28 = .ok (.iconst 1, 1) := by decide +kernel
theorem d_M_alive_29 : decode prog_9_method_4_code 29 = .ok (.goto 4, 3) := by decide +kernel
theorem d_M_alive_32 : decode prog_9_method_4_code 32 = .ok (.iconst 0, 1) := by decide +kernel
theorem d_M_alive_33 : decode prog_9_method_4_code 33 = .ok (.ireturn, 1) := by decide +kernel
theorem d_M_free_0 : decode prog_9_method_9_code 0 = .ok (.iload_n 2, 1) := by decide +kernel
theorem d_M_free_1 : decode prog_9_method_9_code 1 = .ok (.istore_n 3, 1) := by decide +kernel
theorem d_M_free_2 : decode prog_9_method_9_code 2 = .ok (.iload_n 3, 1) := by decide +kernel
theorem d_M_free_3 : decode prog_9_method_9_code 3 = .ok (.bipush 6, 2) := by decide +kernel
theorem d_M_free_5 : decode prog_9_method_9_code 5 = .ok (.if_icmp .ge 25, 3) := by decide +kernel
theorem d_M_free_8 : decode prog_9_method_9_code 8 = .ok (.aload_n 0, 1) := by decide +kernel
theorem d_M_free_9 : decode prog_9_method_9_code 9 = .ok (.getfield 47, 3) := by decide +kernel
theorem d_M_free_12 : decode prog_9_method_9_code 12 = .ok (.bipush 6, 2) := by decide +kernel
theorem d_M_free_14 : decode prog_9_method_9_code 14 = .ok (.iload_n 1, 1) := by decide +kernel
theorem d_M_free_15 : decode prog_9_method_9_code 15 = .ok (.imul, 1) := by decide +kernel
theorem d_M_free_16 : decode prog_9_method_9_code 16 = .ok (.iload_n 3, 1) := by decide +kernel
theorem d_M_free_17 : decode prog_9_method_9_code 17 = .ok (.iadd, 1) := by decide +kernel
theorem d_M_free_18 : decode prog_9_method_9_code 18 = .ok (.iaload, 1) := by decide +kernel
theorem d_M_free_19 : decode prog_9_method_9_code 19 = .ok (.ifCond .ge 5, 3) := by decide +kernel
theorem d_M_free_22 : decode prog_9_method_9_code 22 = .ok (.iload_n 3, 1) := by decide +kernel
theorem d_M_free_23 : decode prog_9_method_9_code 23 = .ok (.ireturn, 1) := by decide +kernel
theorem d_M_free_24 : decode prog_9_method_9_code 24 = .ok (.iinc 3 1, 3) := by decide +kernel
theorem d_M_free_27 : decode prog_9_method_9_code 27 = .ok (.goto (-25), 3) := by decide +kernel
theorem d_M_free_30 : decode prog_9_method_9_code 30 = .ok (.iconst (-1), 1) := by decide +kernel
theorem d_M_free_31 : decode prog_9_method_9_code 31 = .ok (.ireturn, 1) := by decide +kernel
theorem d_M_openings_0 : decode prog_9_method_6_code 0 = .ok (.iconst 0, 1) := by decide +kernel
theorem d_M_openings_1 : decode prog_9_method_6_code 1 = .ok (.istore_n 1, 1) := by decide +kernel
theorem d_M_openings_2 : decode prog_9_method_6_code 2 = .ok (.iconst 0, 1) := by decide +kernel
theorem d_M_openings_3 : decode prog_9_method_6_code 3 = .ok (.istore_n 2, 1) := by decide +kernel
theorem d_M_openings_4 : decode prog_9_method_6_code 4 = .ok (.iload_n 2, 1) := by decide +kernel
theorem d_M_openings_5 : decode prog_9_method_6_code 5 = .ok (.bipush 16, 2) := by decide +kernel
theorem d_M_openings_7 : decode prog_9_method_6_code 7 = .ok (.if_icmp .ge 20, 3) := by decide +kernel
theorem d_M_openings_10 : decode prog_9_method_6_code 10 = .ok (.aload_n 0, 1) := by decide +kernel
theorem d_M_openings_11 : decode prog_9_method_6_code 11 = .ok (.iload_n 2, 1) := by decide +kernel
theorem d_M_openings_12 : decode prog_9_method_6_code 12 = .ok (.invokevirtual 82, 3) := by decide +kernel
theorem d_M_openings_15 : decode prog_9_method_6_code 15 = .ok (.ifCond .eq 6, 3) := by decide +kernel
theorem d_M_openings_18 : decode prog_9_method_6_code 18 = .ok (.iinc 1 1, 3) := by decide +kernel
theorem d_M_openings_21 : decode prog_9_method_6_code 21 = .ok (.iinc 2 1, 3) := by decide +kernel
theorem d_M_openings_24 : decode prog_9_method_6_code 24 = .ok (.goto (-20), 3) := by decide +kernel
theorem d_M_openings_27 : decode prog_9_method_6_code 27 = .ok (.iload_n 1, 1) := by decide +kernel
theorem d_M_openings_28 : decode prog_9_method_6_code 28 = .ok (.ireturn, 1) := by decide +kernel
theorem d_M_operate_0 : decode prog_9_method_12_code 0 = .ok (.aload_n 0, 1) := by decide +kernel
theorem d_M_operate_1 : decode prog_9_method_12_code 1 = .ok (.getfield 89, 3) := by decide +kernel
theorem d_M_operate_4 : decode prog_9_method_12_code 4 = .ok (.ifCond .le 7, 3) := by decide +kernel
theorem d_M_operate_7 : decode prog_9_method_12_code 7 = .ok (.iconst 1, 1) := by decide +kernel
theorem d_M_operate_8 : decode prog_9_method_12_code 8 = .ok (.goto 4, 3) := by decide +kernel
theorem d_M_operate_11 : decode prog_9_method_12_code 11 = .ok (.iconst 0, 1) := by decide +kernel
theorem d_M_operate_12 : decode prog_9_method_12_code 12 = .ok (.istore 4, 2) := by decide +kernel
theorem d_M_operate_14 : decode prog_9_method_12_code 14 = .ok (.iload 4, 2) := by decide +kernel
theorem d_M_operate_16 : decode prog_9_method_12_code 16 = .ok (.ifCond .eq 13, 3) := by decide +kernel
theorem d_M_operate_19 : decode prog_9_method_12_code 19 = .ok (.aload_n 0, 1) := by decide +kernel
theorem d_M_operate_20 : decode prog_9_method_12_code 20 = .ok (.dup, 1) := by decide +kernel
theorem d_M_operate_21 : decode prog_9_method_12_code 21 = .ok (.getfield 89, 3) := by decide +kernel
theorem d_M_operate_24 : decode prog_9_method_12_code 24 = .ok (.iconst 1, 1) := by decide +kernel
theorem d_M_operate_25 : decode prog_9_method_12_code 25 = .ok (.isub, 1) := by decide +kernel
theorem d_M_operate_26 : decode prog_9_method_12_code 26 = .ok (.putfield 89, 3) := by decide +kernel
theorem d_M_operate_29 : decode prog_9_method_12_code 29 = .ok (.bipush 15, 2) := by decide +kernel
theorem d_M_operate_31 : decode prog_9_method_12_code 31 = .ok (.istore 5, 2) := by decide +kernel
theorem d_M_operate_33 : decode prog_9_method_12_code 33 = .ok (.iload 5, 2) := by decide +kernel
theorem d_M_operate_35 : decode prog_9_method_12_code 35 = .ok (.ifCond .le 25, 3) := by decide +kernel
theorem d_M_operate_38 : decode prog_9_method_12_code 38 = .ok (.aload_n 0, 1) := by decide +kernel
theorem d_M_operate_39 : decode prog_9_method_12_code 39 = .ok (.getfield 68, 3) := by decide +kernel
theorem d_M_operate_42 : decode prog_9_method_12_code 42 = .ok (.iload 5, 2) := by decide +kernel
theorem d_M_operate_44 : decode prog_9_method_12_code 44 = .ok (.aload_n 0, 1) := by decide +kernel
theorem d_M_operate_45 : decode prog_9_method_12_code 45 = .ok (.getfield 68, 3) := by decide +kernel
theorem d_M_operate_48 : decode prog_9_method_12_code 48 = .ok (.iload 5, 2) := by decide +kernel
theorem d_M_operate_50 : decode prog_9_method_12_code 50 = .ok (.iconst 1, 1) := by decide +kernel
theorem d_M_operate_51 : decode prog_9_method_12_code 51 = .ok (.isub, 1) := by decide +kernel
theorem d_M_operate_52 : decode prog_9_method_12_code 52 = .ok (.iaload, 1) := by decide +kernel
theorem d_M_operate_53 : decode prog_9_method_12_code 53 = .ok (.iastore, 1) := by decide +kernel
theorem d_M_operate_54 : decode prog_9_method_12_code 54 = .ok (.iinc 5 (-1), 3) := by decide +kernel
theorem d_M_operate_57 : decode prog_9_method_12_code 57 = .ok (.goto (-24), 3) := by decide +kernel
theorem d_M_operate_60 : decode prog_9_method_12_code 60 = .ok (.aload_n 0, 1) := by decide +kernel
theorem d_M_operate_61 : decode prog_9_method_12_code 61 = .ok (.getfield 68, 3) := by decide +kernel
theorem d_M_operate_64 : decode prog_9_method_12_code 64 = .ok (.iconst 0, 1) := by decide +kernel
theorem d_M_operate_65 : decode prog_9_method_12_code 65 = .ok (.iload_n 1, 1) := by decide +kernel
theorem d_M_operate_66 : decode prog_9_method_12_code 66 = .ok (.bipush 8, 2) := by decide +kernel
theorem d_M_operate_68 : decode prog_9_method_12_code 68 = .ok (.iload_n 2, 1) := by decide +kernel
theorem d_M_operate_69 : decode prog_9_method_12_code 69 = .ok (.imul, 1) := by decide +kernel
theorem d_M_operate_70 : decode prog_9_method_12_code 70 = .ok (.iadd, 1) := by decide +kernel
theorem d_M_operate_71 : decode prog_9_method_12_code 71 = .ok (.bipush 64, 2) := by decide +kernel
theorem d_M_operate_73 : decode prog_9_method_12_code 73 = .ok (.iload_n 3, 1) := by decide +kernel
theorem d_M_operate_74 : decode prog_9_method_12_code 74 = .ok (.imul, 1) := by decide +kernel
theorem d_M_operate_75 : decode prog_9_method_12_code 75 = .ok (.iadd, 1) := by decide +kernel
theorem d_M_operate_76 : decode prog_9_method_12_code 76 = .ok (.iload 4, 2) := by decide +kernel
theorem d_M_operate_78 : decode prog_9_method_12_code 78 = .ok (.ifCond .eq 9, 3) := by decide +kernel
theorem d_M_operate_81 : decode prog_9_method_12_code 81 = .ok (.sipush 256, 3) := by decide +kernel
theorem d_M_operate_84 : decode prog_9_method_12_code 84 = .ok (.goto 4, 3) := by decide +kernel
theorem d_M_operate_87 : decode prog_9_method_12_code 87 = .ok (.iconst 0, 1) := by decide +kernel
theorem d_M_operate_88 : decode prog_9_method_12_code 88 = .ok (.iadd, 1) := by decide +kernel
theorem d_M_operate_89 : decode prog_9_method_12_code 89 = .ok (.iastore, 1) := by decide +kernel
theorem d_M_operate_90 : decode prog_9_method_12_code 90 = .ok (.aload_n 0, 1) := by decide +kernel
theorem d_M_operate_91 : decode prog_9_method_12_code 91 = .ok (.dup, 1) := by decide +kernel
theorem d_M_operate_92 : decode prog_9_method_12_code 92 = .ok (.getfield 92, 3) := by decide +kernel
theorem d_M_operate_95 : decode prog_9_method_12_code 95 = .ok (.iconst 1, 1) := by decide +kernel
theorem d_M_operate_96 : decode prog_9_method_12_code 96 = .ok (.iadd, 1) := by decide +kernel
theorem d_M_operate_97 : decode prog_9_method_12_code 97 = .ok (.putfield 92, 3) := by decide +kernel
theorem d_M_operate_100 : decode prog_9_method_12_code 100 = .ok (.iload 4, 2) := by decide +kernel
theorem d_M_operate_102 : decode prog_9_method_12_code 102 = .ok (.ifCond .ne 7, 3) := by decide +kernel
theorem d_M_operate_105 : decode prog_9_method_12_code 105 = .ok (.iconst 1, 1) := by decide +kernel
theorem d_M_operate_106 : decode prog_9_method_12_code 106 = .ok (.goto 4, 3) := by decide +kernel
theorem d_M_operate_109 : decode prog_9_method_12_code 109 = .ok (.iconst 0, 1) := by decide +kernel
theorem d_M_operate_110 : decode prog_9_method_12_code 110 = .ok (.ireturn, 1) := by decide +kernel
theorem d_M_forget_0 : decode prog_9_method_17_code 0 = .ok (.iconst 0, 1) := by decide +kernel
theorem d_M_forget_1 : decode prog_9_method_17_code 1 = .ok (.istore_n 2, 1) := by decide +kernel
theorem d_M_forget_2 : decode prog_9_method_17_code 2 = .ok (.iconst 0, 1) := by decide +kernel
theorem d_M_forget_3 : decode prog_9_method_17_code 3 = .ok (.istore_n 3, 1) := by decide +kernel
theorem d_M_forget_4 : decode prog_9_method_17_code 4 = .ok (.iload_n 3, 1) := by decide +kernel
theorem d_M_forget_5 : decode prog_9_method_17_code 5 = .ok (.aload_n 0, 1) := by decide +kernel
theorem d_M_forget_6 : decode prog_9_method_17_code 6 = .ok (.getfield 74, 3) := by decide +kernel
theorem d_M_forget_9 : decode prog_9_method_17_code 9 = .ok (.if_icmp .ge 92, 3) := by decide +kernel
theorem d_M_forget_12 : decode prog_9_method_17_code 12 = .ok (.aload_n 0, 1) := by decide +kernel
theorem d_M_forget_13 : decode prog_9_method_17_code 13 = .ok (.getfield 26, 3) := by decide +kernel
theorem d_M_forget_16 : decode prog_9_method_17_code 16 = .ok (.iload_n 3, 1) := by decide +kernel
theorem d_M_forget_17 : decode prog_9_method_17_code 17 = .ok (.iaload, 1) := by decide +kernel
theorem d_M_forget_18 : decode prog_9_method_17_code 18 = .ok (.bipush 7, 2) := by decide +kernel
theorem d_M_forget_20 : decode prog_9_method_17_code 20 = .ok (.iand, 1) := by decide +kernel
theorem d_M_forget_21 : decode prog_9_method_17_code 21 = .ok (.iload_n 1, 1) := by decide +kernel
theorem d_M_forget_22 : decode prog_9_method_17_code 22 = .ok (.if_icmp .ne 6, 3) := by decide +kernel
theorem d_M_forget_25 : decode prog_9_method_17_code 25 = .ok (.goto 70, 3) := by decide +kernel
theorem d_M_forget_28 : decode prog_9_method_17_code 28 = .ok (.aload_n 0, 1) := by decide +kernel
theorem d_M_forget_29 : decode prog_9_method_17_code 29 = .ok (.getfield 26, 3) := by decide +kernel
theorem d_M_forget_32 : decode prog_9_method_17_code 32 = .ok (.iload_n 2, 1) := by decide +kernel
theorem d_M_forget_33 : decode prog_9_method_17_code 33 = .ok (.aload_n 0, 1) := by decide +kernel
theorem d_M_forget_34 : decode prog_9_method_17_code 34 = .ok (.getfield 26, 3) := by decide +kernel
theorem d_M_forget_37 : decode prog_9_method_17_code 37 = .ok (.iload_n 3, 1) := by decide +kernel
theorem d_M_forget_38 : decode prog_9_method_17_code 38 = .ok (.iaload, 1) := by decide +kernel
theorem d_M_forget_39 : decode prog_9_method_17_code 39 = .ok (.iastore, 1) := by decide +kernel
theorem d_M_forget_40 : decode prog_9_method_17_code 40 = .ok (.aload_n 0, 1) := by decide +kernel
theorem d_M_forget_41 : decode prog_9_method_17_code 41 = .ok (.getfield 29, 3) := by decide +kernel
theorem d_M_forget_44 : decode prog_9_method_17_code 44 = .ok (.iload_n 2, 1) := by decide +kernel
theorem d_M_forget_45 : decode prog_9_method_17_code 45 = .ok (.aload_n 0, 1) := by decide +kernel
theorem d_M_forget_46 : decode prog_9_method_17_code 46 = .ok (.getfield 29, 3) := by decide +kernel
theorem d_M_forget_49 : decode prog_9_method_17_code 49 = .ok (.iload_n 3, 1) := by decide +kernel
theorem d_M_forget_50 : decode prog_9_method_17_code 50 = .ok (.baload, 1) := by decide +kernel
theorem d_M_forget_51 : decode prog_9_method_17_code 51 = .ok (.bastore, 1) := by decide +kernel
theorem d_M_forget_52 : decode prog_9_method_17_code 52 = .ok (.iconst 0, 1) := by decide +kernel
theorem d_M_forget_53 : decode prog_9_method_17_code 53 = .ok (.istore 4, 2) := by decide +kernel
theorem d_M_forget_55 : decode prog_9_method_17_code 55 = .ok (.iload 4, 2) := by decide +kernel
theorem d_M_forget_57 : decode prog_9_method_17_code 57 = .ok (.bipush 8, 2) := by decide +kernel
theorem d_M_forget_59 : decode prog_9_method_17_code 59 = .ok (.if_icmp .ge 33, 3) := by decide +kernel
theorem d_M_forget_62 : decode prog_9_method_17_code 62 = .ok (.aload_n 0, 1) := by decide +kernel
theorem d_M_forget_63 : decode prog_9_method_17_code 63 = .ok (.getfield 32, 3) := by decide +kernel
theorem d_M_forget_66 : decode prog_9_method_17_code 66 = .ok (.bipush 8, 2) := by decide +kernel
theorem d_M_forget_68 : decode prog_9_method_17_code 68 = .ok (.iload_n 2, 1) := by decide +kernel
theorem d_M_forget_69 : decode prog_9_method_17_code 69 = .ok (.imul, 1) := by decide +kernel
theorem d_M_forget_70 : decode prog_9_method_17_code 70 = .ok (.iload 4, 2) := by decide +kernel
theorem d_M_forget_72 : decode prog_9_method_17_code 72 = .ok (.iadd, 1) := by decide +kernel
theorem d_M_forget_73 : decode prog_9_method_17_code 73 = .ok (.aload_n 0, 1) := by decide +kernel
theorem d_M_forget_74 : decode prog_9_method_17_code 74 = .ok (.getfield 32, 3) := by decide +kernel
theorem d_M_forget_77 : decode prog_9_method_17_code 77 = .ok (.bipush 8, 2) := by decide +kernel
theorem d_M_forget_79 : decode prog_9_method_17_code 79 = .ok (.iload_n 3, 1) := by decide +kernel
theorem d_M_forget_80 : decode prog_9_method_17_code 80 = .ok (.imul, 1) := by decide +kernel
theorem d_M_forget_81 : decode prog_9_method_17_code 81 = .ok (.iload 4, 2) := by decide +kernel
theorem d_M_forget_83 : decode prog_9_method_17_code 83 = .ok (.iadd, 1) := by decide +kernel
theorem d_M_forget_84 : decode prog_9_method_17_code 84 = .ok (.iaload, 1) := by decide +kernel
theorem d_M_forget_85 : decode prog_9_method_17_code 85 = .ok (.iastore, 1) := by decide +kernel
theorem d_M_forget_86 : decode prog_9_method_17_code 86 = .ok (.iinc 4 1, 3) := by decide +kernel
theorem d_M_forget_89 : decode prog_9_method_17_code 89 = .ok (.goto (-34), 3) := by decide +kernel
theorem d_M_forget_92 : decode prog_9_method_17_code 92 = .ok (.iinc 2 1, 3) := by decide +kernel
theorem d_M_forget_95 : decode prog_9_method_17_code 95 = .ok (.iinc 3 1, 3) := by decide +kernel
theorem d_M_forget_98 : decode prog_9_method_17_code 98 = .ok (.goto (-94), 3) := by decide +kernel
theorem d_M_forget_101 : decode prog_9_method_17_code 101 = .ok (.aload_n 0, 1) := by decide +kernel
theorem d_M_forget_102 : decode prog_9_method_17_code 102 = .ok (.iload_n 2, 1) := by decide +kernel
theorem d_M_forget_103 : decode prog_9_method_17_code 103 = .ok (.putfield 74, 3) := by decide +kernel
theorem d_M_forget_106 : decode prog_9_method_17_code 106 = .ok (.return_, 1) := by decide +kernel
theorem d_M_newOpening_0 : decode prog_9_method_10_code 0 = .ok (.iconst 0, 1) := by decide +kernel
theorem d_M_newOpening_1 : decode prog_9_method_10_code 1 = .ok (.istore 4, 2) := by decide +kernel
theorem d_M_newOpening_3 : decode prog_9_method_10_code 3 = .ok (.aload_n 0, 1) := by decide +kernel
theorem d_M_newOpening_4 : decode prog_9_method_10_code 4 = .ok (.iload 4, 2) := by decide +kernel
theorem d_M_newOpening_6 : decode prog_9_method_10_code 6 = .ok (.invokevirtual 82, 3) := by decide +kernel
theorem d_M_newOpening_9 : decode prog_9_method_10_code 9 = .ok (.ifCond .eq 9, 3) := by decide +kernel
theorem d_M_newOpening_12 : decode prog_9_method_10_code 12 = .ok (.iinc 4 1, 3) := by decide +kernel
theorem d_M_newOpening_15 : decode prog_9_method_10_code 15 = .ok (.goto (-12), 3) := by decide +kernel
theorem d_M_newOpening_18 : decode prog_9_method_10_code 18 = .ok (.aload_n 0, 1) := by decide +kernel
theorem d_M_newOpening_19 : decode prog_9_method_10_code 19 = .ok (.getfield 50, 3) := by decide +kernel
theorem d_M_newOpening_22 : decode prog_9_method_10_code 22 = .ok (.iload 4, 2) := by decide +kernel
theorem d_M_newOpening_24 : decode prog_9_method_10_code 24 = .ok (.iload_n 1, 1) := by decide +kernel
theorem d_M_newOpening_25 : decode prog_9_method_10_code 25 = .ok (.iastore, 1) := by decide +kernel
theorem d_M_newOpening_26 : decode prog_9_method_10_code 26 = .ok (.aload_n 0, 1) := by decide +kernel
theorem d_M_newOpening_27 : decode prog_9_method_10_code 27 = .ok (.getfield 53, 3) := by decide +kernel
theorem d_M_newOpening_30 : decode prog_9_method_10_code 30 = .ok (.iload 4, 2) := by decide +kernel
theorem d_M_newOpening_32 : decode prog_9_method_10_code 32 = .ok (.iload_n 2, 1) := by decide +kernel
theorem d_M_newOpening_33 : decode prog_9_method_10_code 33 = .ok (.iastore, 1) := by decide +kernel
theorem d_M_newOpening_34 : decode prog_9_method_10_code 34 = .ok (.aload_n 0, 1) := by decide +kernel
theorem d_M_newOpening_35 : decode prog_9_method_10_code 35 = .ok (.getfield 56, 3) := by decide +kernel
theorem d_M_newOpening_38 : decode prog_9_method_10_code 38 = .ok (.iload 4, 2) := by decide +kernel
theorem d_M_newOpening_40 : decode prog_9_method_10_code 40 = .ok (.iload_n 3, 1) := by decide +kernel
theorem d_M_newOpening_41 : decode prog_9_method_10_code 41 = .ok (.iastore, 1) := by decide +kernel
theorem d_M_newOpening_42 : decode prog_9_method_10_code 42 = .ok (.aload_n 0, 1) := by decide +kernel
theorem d_M_newOpening_43 : decode prog_9_method_10_code 43 = .ok (.getfield 59, 3) := by decide +kernel
theorem d_M_newOpening_46 : decode prog_9_method_10_code 46 = .ok (.iload 4, 2) := by decide +kernel
theorem d_M_newOpening_48 : decode prog_9_method_10_code 48 = .ok (.iconst 0, 1) := by decide +kernel
theorem d_M_newOpening_49 : decode prog_9_method_10_code 49 = .ok (.iastore, 1) := by decide +kernel
theorem d_M_newOpening_50 : decode prog_9_method_10_code 50 = .ok (.iload 4, 2) := by decide +kernel
theorem d_M_newOpening_52 : decode prog_9_method_10_code 52 = .ok (.ireturn, 1) := by decide +kernel
theorem d_M_pipe_0 : decode prog_9_method_22_code 0 = .ok (.aload_n 0, 1) := by decide +kernel
theorem d_M_pipe_1 : decode prog_9_method_22_code 1 = .ok (.iload_n 1, 1) := by decide +kernel
theorem d_M_pipe_2 : decode prog_9_method_22_code 2 = .ok (.invokevirtual 86, 3) := by decide +kernel
theorem d_M_pipe_5 : decode prog_9_method_22_code 5 = .ok (.ifCond .ne 5, 3) := by decide +kernel
theorem d_M_pipe_8 : decode prog_9_method_22_code 8 = .ok (.iconst (-1), 1) := by decide +kernel
theorem d_M_pipe_9 : decode prog_9_method_22_code 9 = .ok (.ireturn, 1) := by decide +kernel
theorem d_M_pipe_10 : decode prog_9_method_22_code 10 = .ok (.aload_n 0, 1) := by decide +kernel
theorem d_M_pipe_11 : decode prog_9_method_22_code 11 = .ok (.iload_n 1, 1) := by decide +kernel
theorem d_M_pipe_12 : decode prog_9_method_22_code 12 = .ok (.iconst 0, 1) := by decide +kernel
theorem d_M_pipe_13 : decode prog_9_method_22_code 13 = .ok (.invokevirtual 111, 3) := by decide +kernel
theorem d_M_pipe_16 : decode prog_9_method_22_code 16 = .ok (.istore_n 2, 1) := by decide +kernel
theorem d_M_pipe_17 : decode prog_9_method_22_code 17 = .ok (.iload_n 2, 1) := by decide +kernel
theorem d_M_pipe_18 : decode prog_9_method_22_code 18 = .ok (.ifCond .ge 7, 3) := by decide +kernel
theorem d_M_pipe_21 : decode prog_9_method_22_code 21 = .ok (.iconst (-1), 1) := by decide +kernel
theorem d_M_pipe_22 : decode prog_9_method_22_code 22 = .ok (.goto 11, 3) := by decide +kernel
theorem d_M_pipe_25 : decode prog_9_method_22_code 25 = .ok (.aload_n 0, 1) := by decide +kernel
theorem d_M_pipe_26 : decode prog_9_method_22_code 26 = .ok (.iload_n 1, 1) := by decide +kernel
theorem d_M_pipe_27 : decode prog_9_method_22_code 27 = .ok (.iload_n 2, 1) := by decide +kernel
theorem d_M_pipe_28 : decode prog_9_method_22_code 28 = .ok (.iconst 1, 1) := by decide +kernel
theorem d_M_pipe_29 : decode prog_9_method_22_code 29 = .ok (.iadd, 1) := by decide +kernel
theorem d_M_pipe_30 : decode prog_9_method_22_code 30 = .ok (.invokevirtual 111, 3) := by decide +kernel
theorem d_M_pipe_33 : decode prog_9_method_22_code 33 = .ok (.istore_n 3, 1) := by decide +kernel
theorem d_M_pipe_34 : decode prog_9_method_22_code 34 = .ok (.iload_n 3, 1) := by decide +kernel
theorem d_M_pipe_35 : decode prog_9_method_22_code 35 = .ok (.ifCond .lt 12, 3) := by decide +kernel
theorem d_M_pipe_38 : decode prog_9_method_22_code 38 = .ok (.aload_n 0, 1) := by decide +kernel
theorem d_M_pipe_39 : decode prog_9_method_22_code 39 = .ok (.invokevirtual 115, 3) := by decide +kernel
theorem d_M_pipe_42 : decode prog_9_method_22_code 42 = .ok (.bipush 14, 2) := by decide +kernel
theorem d_M_pipe_44 : decode prog_9_method_22_code 44 = .ok (.if_icmp .le 6, 3) := by decide +kernel
theorem d_M_pipe_47 : decode prog_9_method_22_code 47 = .ok (.bipush (-2), 2) := by decide +kernel
theorem d_M_pipe_49 : decode prog_9_method_22_code 49 = .ok (.ireturn, 1) := by decide +kernel
theorem d_M_pipe_50 : decode prog_9_method_22_code 50 = .ok (.iconst 0, 1) := by decide +kernel
theorem d_M_pipe_51 : decode prog_9_method_22_code 51 = .ok (.istore 4, 2) := by decide +kernel
theorem d_M_pipe_53 : decode prog_9_method_22_code 53 = .ok (.aload_n 0, 1) := by decide +kernel
theorem d_M_pipe_54 : decode prog_9_method_22_code 54 = .ok (.iload 4, 2) := by decide +kernel
theorem d_M_pipe_56 : decode prog_9_method_22_code 56 = .ok (.iconst 1, 1) := by decide +kernel
theorem d_M_pipe_57 : decode prog_9_method_22_code 57 = .ok (.invokevirtual 126, 3) := by decide +kernel
theorem d_M_pipe_60 : decode prog_9_method_22_code 60 = .ok (.ifCond .ne 13, 3) := by decide +kernel
theorem d_M_pipe_63 : decode prog_9_method_22_code 63 = .ok (.aload_n 0, 1) := by decide +kernel
theorem d_M_pipe_64 : decode prog_9_method_22_code 64 = .ok (.iload 4, 2) := by decide +kernel
theorem d_M_pipe_66 : decode prog_9_method_22_code 66 = .ok (.iconst 2, 1) := by decide +kernel
theorem d_M_pipe_67 : decode prog_9_method_22_code 67 = .ok (.invokevirtual 126, 3) := by decide +kernel
theorem d_M_pipe_70 : decode prog_9_method_22_code 70 = .ok (.ifCond .eq 9, 3) := by decide +kernel
theorem d_M_pipe_73 : decode prog_9_method_22_code 73 = .ok (.iinc 4 1, 3) := by decide +kernel
end
section
/-! decode rows, by program -/
theorem d_M_pipe_76 : decode prog_9_method_22_code 76 = .ok (.goto (-23), 3) := by decide +kernel
theorem d_M_pipe_79 : decode prog_9_method_22_code 79 = .ok (.aload_n 0, 1) := by decide +kernel
theorem d_M_pipe_80 : decode prog_9_method_22_code 80 = .ok (.getfield 65, 3) := by decide +kernel
theorem d_M_pipe_83 : decode prog_9_method_22_code 83 = .ok (.iload 4, 2) := by decide +kernel
theorem d_M_pipe_85 : decode prog_9_method_22_code 85 = .ok (.iconst 0, 1) := by decide +kernel
theorem d_M_pipe_86 : decode prog_9_method_22_code 86 = .ok (.iastore, 1) := by decide +kernel
theorem d_M_pipe_87 : decode prog_9_method_22_code 87 = .ok (.aload_n 0, 1) := by decide +kernel
theorem d_M_pipe_88 : decode prog_9_method_22_code 88 = .ok (.getfield 47, 3) := by decide +kernel
theorem d_M_pipe_91 : decode prog_9_method_22_code 91 = .ok (.bipush 6, 2) := by decide +kernel
theorem d_M_pipe_93 : decode prog_9_method_22_code 93 = .ok (.iload_n 1, 1) := by decide +kernel
theorem d_M_pipe_94 : decode prog_9_method_22_code 94 = .ok (.imul, 1) := by decide +kernel
theorem d_M_pipe_95 : decode prog_9_method_22_code 95 = .ok (.iload_n 2, 1) := by decide +kernel
theorem d_M_pipe_96 : decode prog_9_method_22_code 96 = .ok (.iadd, 1) := by decide +kernel
theorem d_M_pipe_97 : decode prog_9_method_22_code 97 = .ok (.aload_n 0, 1) := by decide +kernel
theorem d_M_pipe_98 : decode prog_9_method_22_code 98 = .ok (.iconst 1, 1) := by decide +kernel
theorem d_M_pipe_99 : decode prog_9_method_22_code 99 = .ok (.iload 4, 2) := by decide +kernel
theorem d_M_pipe_101 : decode prog_9_method_22_code 101 = .ok (.iconst 1, 1) := by decide +kernel
theorem d_M_pipe_102 : decode prog_9_method_22_code 102 = .ok (.invokevirtual 122, 3) := by decide +kernel
theorem d_M_pipe_105 : decode prog_9_method_22_code 105 = .ok (.iastore, 1) := by decide +kernel
theorem d_M_pipe_106 : decode prog_9_method_22_code 106 = .ok (.aload_n 0, 1) := by decide +kernel
theorem d_M_pipe_107 : decode prog_9_method_22_code 107 = .ok (.getfield 47, 3) := by decide +kernel
theorem d_M_pipe_110 : decode prog_9_method_22_code 110 = .ok (.bipush 6, 2) := by decide +kernel
theorem d_M_pipe_112 : decode prog_9_method_22_code 112 = .ok (.iload_n 1, 1) := by decide +kernel
theorem d_M_pipe_113 : decode prog_9_method_22_code 113 = .ok (.imul, 1) := by decide +kernel
theorem d_M_pipe_114 : decode prog_9_method_22_code 114 = .ok (.iload_n 3, 1) := by decide +kernel
theorem d_M_pipe_115 : decode prog_9_method_22_code 115 = .ok (.iadd, 1) := by decide +kernel
theorem d_M_pipe_116 : decode prog_9_method_22_code 116 = .ok (.aload_n 0, 1) := by decide +kernel
theorem d_M_pipe_117 : decode prog_9_method_22_code 117 = .ok (.iconst 2, 1) := by decide +kernel
theorem d_M_pipe_118 : decode prog_9_method_22_code 118 = .ok (.iload 4, 2) := by decide +kernel
theorem d_M_pipe_120 : decode prog_9_method_22_code 120 = .ok (.iconst 2, 1) := by decide +kernel
theorem d_M_pipe_121 : decode prog_9_method_22_code 121 = .ok (.invokevirtual 122, 3) := by decide +kernel
theorem d_M_pipe_124 : decode prog_9_method_22_code 124 = .ok (.iastore, 1) := by decide +kernel
theorem d_M_pipe_125 : decode prog_9_method_22_code 125 = .ok (.iload_n 2, 1) := by decide +kernel
theorem d_M_pipe_126 : decode prog_9_method_22_code 126 = .ok (.bipush 8, 2) := by decide +kernel
theorem d_M_pipe_128 : decode prog_9_method_22_code 128 = .ok (.iload_n 3, 1) := by decide +kernel
theorem d_M_pipe_129 : decode prog_9_method_22_code 129 = .ok (.imul, 1) := by decide +kernel
theorem d_M_pipe_130 : decode prog_9_method_22_code 130 = .ok (.iadd, 1) := by decide +kernel
theorem d_M_pipe_131 : decode prog_9_method_22_code 131 = .ok (.ireturn, 1) := by decide +kernel
theorem d_M_hasEnd_0 : decode prog_9_method_8_code 0 = .ok (.iconst 0, 1) := by decide +kernel
theorem d_M_hasEnd_1 : decode prog_9_method_8_code 1 = .ok (.istore_n 3, 1) := by decide +kernel
theorem d_M_hasEnd_2 : decode prog_9_method_8_code 2 = .ok (.iload_n 3, 1) := by decide +kernel
theorem d_M_hasEnd_3 : decode prog_9_method_8_code 3 = .ok (.bipush 16, 2) := by decide +kernel
theorem d_M_hasEnd_5 : decode prog_9_method_8_code 5 = .ok (.if_icmp .ge 39, 3) := by decide +kernel
theorem d_M_hasEnd_8 : decode prog_9_method_8_code 8 = .ok (.aload_n 0, 1) := by decide +kernel
theorem d_M_hasEnd_9 : decode prog_9_method_8_code 9 = .ok (.iload_n 3, 1) := by decide +kernel
theorem d_M_hasEnd_10 : decode prog_9_method_8_code 10 = .ok (.invokevirtual 82, 3) := by decide +kernel
theorem d_M_hasEnd_13 : decode prog_9_method_8_code 13 = .ok (.ifCond .eq 25, 3) := by decide +kernel
theorem d_M_hasEnd_16 : decode prog_9_method_8_code 16 = .ok (.aload_n 0, 1) := by decide +kernel
theorem d_M_hasEnd_17 : decode prog_9_method_8_code 17 = .ok (.getfield 50, 3) := by decide +kernel
theorem d_M_hasEnd_20 : decode prog_9_method_8_code 20 = .ok (.iload_n 3, 1) := by decide +kernel
theorem d_M_hasEnd_21 : decode prog_9_method_8_code 21 = .ok (.iaload, 1) := by decide +kernel
theorem d_M_hasEnd_22 : decode prog_9_method_8_code 22 = .ok (.iload_n 2, 1) := by decide +kernel
theorem d_M_hasEnd_23 : decode prog_9_method_8_code 23 = .ok (.if_icmp .ne 15, 3) := by decide +kernel
theorem d_M_hasEnd_26 : decode prog_9_method_8_code 26 = .ok (.aload_n 0, 1) := by decide +kernel
theorem d_M_hasEnd_27 : decode prog_9_method_8_code 27 = .ok (.getfield 53, 3) := by decide +kernel
theorem d_M_hasEnd_30 : decode prog_9_method_8_code 30 = .ok (.iload_n 3, 1) := by decide +kernel
theorem d_M_hasEnd_31 : decode prog_9_method_8_code 31 = .ok (.iaload, 1) := by decide +kernel
theorem d_M_hasEnd_32 : decode prog_9_method_8_code 32 = .ok (.iload_n 1, 1) := by decide +kernel
theorem d_M_hasEnd_33 : decode prog_9_method_8_code 33 = .ok (.if_icmp .ne 5, 3) := by decide +kernel
theorem d_M_hasEnd_36 : decode prog_9_method_8_code 36 = .ok (.iconst 1, 1) := by decide +kernel
theorem d_M_hasEnd_37 : decode prog_9_method_8_code 37 = .ok (.ireturn, 1) := by decide +kernel
theorem d_M_hasEnd_38 : decode prog_9_method_8_code 38 = .ok (.iinc 3 1, 3) := by decide +kernel
theorem d_M_hasEnd_41 : decode prog_9_method_8_code 41 = .ok (.goto (-39), 3) := by decide +kernel
theorem d_M_hasEnd_44 : decode prog_9_method_8_code 44 = .ok (.iconst 0, 1) := by decide +kernel
theorem d_M_hasEnd_45 : decode prog_9_method_8_code 45 = .ok (.ireturn, 1) := by decide +kernel
theorem d_M_read_0 : decode prog_9_method_23_code 0 = .ok (.aload_n 0, 1) := by decide +kernel
theorem d_M_read_1 : decode prog_9_method_23_code 1 = .ok (.iload_n 1, 1) := by decide +kernel
theorem d_M_read_2 : decode prog_9_method_23_code 2 = .ok (.iload_n 2, 1) := by decide +kernel
theorem d_M_read_3 : decode prog_9_method_23_code 3 = .ok (.invokevirtual 130, 3) := by decide +kernel
theorem d_M_read_6 : decode prog_9_method_23_code 6 = .ok (.istore_n 3, 1) := by decide +kernel
theorem d_M_read_7 : decode prog_9_method_23_code 7 = .ok (.iload_n 3, 1) := by decide +kernel
theorem d_M_read_8 : decode prog_9_method_23_code 8 = .ok (.ifCond .ge 5, 3) := by decide +kernel
theorem d_M_read_11 : decode prog_9_method_23_code 11 = .ok (.iload_n 3, 1) := by decide +kernel
theorem d_M_read_12 : decode prog_9_method_23_code 12 = .ok (.ireturn, 1) := by decide +kernel
theorem d_M_read_13 : decode prog_9_method_23_code 13 = .ok (.aload_n 0, 1) := by decide +kernel
theorem d_M_read_14 : decode prog_9_method_23_code 14 = .ok (.getfield 56, 3) := by decide +kernel
theorem d_M_read_17 : decode prog_9_method_23_code 17 = .ok (.iload_n 3, 1) := by decide +kernel
theorem d_M_read_18 : decode prog_9_method_23_code 18 = .ok (.iaload, 1) := by decide +kernel
theorem d_M_read_19 : decode prog_9_method_23_code 19 = .ok (.iconst 1, 1) := by decide +kernel
theorem d_M_read_20 : decode prog_9_method_23_code 20 = .ok (.iand, 1) := by decide +kernel
theorem d_M_read_21 : decode prog_9_method_23_code 21 = .ok (.ifCond .ne 6, 3) := by decide +kernel
theorem d_M_read_24 : decode prog_9_method_23_code 24 = .ok (.bipush (-3), 2) := by decide +kernel
theorem d_M_read_26 : decode prog_9_method_23_code 26 = .ok (.ireturn, 1) := by decide +kernel
theorem d_M_read_27 : decode prog_9_method_23_code 27 = .ok (.aload_n 0, 1) := by decide +kernel
theorem d_M_read_28 : decode prog_9_method_23_code 28 = .ok (.getfield 50, 3) := by decide +kernel
theorem d_M_read_31 : decode prog_9_method_23_code 31 = .ok (.iload_n 3, 1) := by decide +kernel
theorem d_M_read_32 : decode prog_9_method_23_code 32 = .ok (.iaload, 1) := by decide +kernel
theorem d_M_read_33 : decode prog_9_method_23_code 33 = .ok (.iconst 1, 1) := by decide +kernel
theorem d_M_read_34 : decode prog_9_method_23_code 34 = .ok (.if_icmp .ne 105, 3) := by decide +kernel
theorem d_M_read_37 : decode prog_9_method_23_code 37 = .ok (.aload_n 0, 1) := by decide +kernel
theorem d_M_read_38 : decode prog_9_method_23_code 38 = .ok (.getfield 53, 3) := by decide +kernel
theorem d_M_read_41 : decode prog_9_method_23_code 41 = .ok (.iload_n 3, 1) := by decide +kernel
theorem d_M_read_42 : decode prog_9_method_23_code 42 = .ok (.iaload, 1) := by decide +kernel
theorem d_M_read_43 : decode prog_9_method_23_code 43 = .ok (.istore 4, 2) := by decide +kernel
theorem d_M_read_45 : decode prog_9_method_23_code 45 = .ok (.aload_n 0, 1) := by decide +kernel
theorem d_M_read_46 : decode prog_9_method_23_code 46 = .ok (.getfield 65, 3) := by decide +kernel
theorem d_M_read_49 : decode prog_9_method_23_code 49 = .ok (.iload 4, 2) := by decide +kernel
theorem d_M_read_51 : decode prog_9_method_23_code 51 = .ok (.iaload, 1) := by decide +kernel
theorem d_M_read_52 : decode prog_9_method_23_code 52 = .ok (.ifCond .ne 21, 3) := by decide +kernel
theorem d_M_read_55 : decode prog_9_method_23_code 55 = .ok (.aload_n 0, 1) := by decide +kernel
theorem d_M_read_56 : decode prog_9_method_23_code 56 = .ok (.iload 4, 2) := by decide +kernel
theorem d_M_read_58 : decode prog_9_method_23_code 58 = .ok (.iconst 2, 1) := by decide +kernel
theorem d_M_read_59 : decode prog_9_method_23_code 59 = .ok (.invokevirtual 126, 3) := by decide +kernel
theorem d_M_read_62 : decode prog_9_method_23_code 62 = .ok (.ifCond .eq 8, 3) := by decide +kernel
theorem d_M_read_65 : decode prog_9_method_23_code 65 = .ok (.bipush (-6), 2) := by decide +kernel
theorem d_M_read_67 : decode prog_9_method_23_code 67 = .ok (.goto 5, 3) := by decide +kernel
theorem d_M_read_70 : decode prog_9_method_23_code 70 = .ok (.bipush (-7), 2) := by decide +kernel
theorem d_M_read_72 : decode prog_9_method_23_code 72 = .ok (.ireturn, 1) := by decide +kernel
theorem d_M_read_73 : decode prog_9_method_23_code 73 = .ok (.aload_n 0, 1) := by decide +kernel
theorem d_M_read_74 : decode prog_9_method_23_code 74 = .ok (.getfield 62, 3) := by decide +kernel
theorem d_M_read_77 : decode prog_9_method_23_code 77 = .ok (.iconst 4, 1) := by decide +kernel
theorem d_M_read_78 : decode prog_9_method_23_code 78 = .ok (.iload 4, 2) := by decide +kernel
theorem d_M_read_80 : decode prog_9_method_23_code 80 = .ok (.imul, 1) := by decide +kernel
theorem d_M_read_81 : decode prog_9_method_23_code 81 = .ok (.iaload, 1) := by decide +kernel
theorem d_M_read_82 : decode prog_9_method_23_code 82 = .ok (.istore 5, 2) := by decide +kernel
theorem d_M_read_84 : decode prog_9_method_23_code 84 = .ok (.iconst 1, 1) := by decide +kernel
theorem d_M_read_85 : decode prog_9_method_23_code 85 = .ok (.istore 6, 2) := by decide +kernel
theorem d_M_read_87 : decode prog_9_method_23_code 87 = .ok (.iload 6, 2) := by decide +kernel
theorem d_M_read_89 : decode prog_9_method_23_code 89 = .ok (.iconst 4, 1) := by decide +kernel
theorem d_M_read_90 : decode prog_9_method_23_code 90 = .ok (.if_icmp .ge 35, 3) := by decide +kernel
theorem d_M_read_93 : decode prog_9_method_23_code 93 = .ok (.aload_n 0, 1) := by decide +kernel
theorem d_M_read_94 : decode prog_9_method_23_code 94 = .ok (.getfield 62, 3) := by decide +kernel
theorem d_M_read_97 : decode prog_9_method_23_code 97 = .ok (.iconst 4, 1) := by decide +kernel
theorem d_M_read_98 : decode prog_9_method_23_code 98 = .ok (.iload 4, 2) := by decide +kernel
theorem d_M_read_100 : decode prog_9_method_23_code 100 = .ok (.imul, 1) := by decide +kernel
theorem d_M_read_101 : decode prog_9_method_23_code 101 = .ok (.iload 6, 2) := by decide +kernel
theorem d_M_read_103 : decode prog_9_method_23_code 103 = .ok (.iadd, 1) := by decide +kernel
theorem d_M_read_104 : decode prog_9_method_23_code 104 = .ok (.iconst 1, 1) := by decide +kernel
theorem d_M_read_105 : decode prog_9_method_23_code 105 = .ok (.isub, 1) := by decide +kernel
theorem d_M_read_106 : decode prog_9_method_23_code 106 = .ok (.aload_n 0, 1) := by decide +kernel
theorem d_M_read_107 : decode prog_9_method_23_code 107 = .ok (.getfield 62, 3) := by decide +kernel
theorem d_M_read_110 : decode prog_9_method_23_code 110 = .ok (.iconst 4, 1) := by decide +kernel
theorem d_M_read_111 : decode prog_9_method_23_code 111 = .ok (.iload 4, 2) := by decide +kernel
theorem d_M_read_113 : decode prog_9_method_23_code 113 = .ok (.imul, 1) := by decide +kernel
theorem d_M_read_114 : decode prog_9_method_23_code 114 = .ok (.iload 6, 2) := by decide +kernel
theorem d_M_read_116 : decode prog_9_method_23_code 116 = .ok (.iadd, 1) := by decide +kernel
theorem d_M_read_117 : decode prog_9_method_23_code 117 = .ok (.iaload, 1) := by decide +kernel
theorem d_M_read_118 : decode prog_9_method_23_code 118 = .ok (.iastore, 1) := by decide +kernel
theorem d_M_read_119 : decode prog_9_method_23_code 119 = .ok (.iinc 6 1, 3) := by decide +kernel
theorem d_M_read_122 : decode prog_9_method_23_code 122 = .ok (.goto (-35), 3) := by decide +kernel
theorem d_M_read_125 : decode prog_9_method_23_code 125 = .ok (.aload_n 0, 1) := by decide +kernel
theorem d_M_read_126 : decode prog_9_method_23_code 126 = .ok (.getfield 65, 3) := by decide +kernel
theorem d_M_read_129 : decode prog_9_method_23_code 129 = .ok (.iload 4, 2) := by decide +kernel
theorem d_M_read_131 : decode prog_9_method_23_code 131 = .ok (.dup2, 1) := by decide +kernel
theorem d_M_read_132 : decode prog_9_method_23_code 132 = .ok (.iaload, 1) := by decide +kernel
theorem d_M_read_133 : decode prog_9_method_23_code 133 = .ok (.iconst 1, 1) := by decide +kernel
theorem d_M_read_134 : decode prog_9_method_23_code 134 = .ok (.isub, 1) := by decide +kernel
theorem d_M_read_135 : decode prog_9_method_23_code 135 = .ok (.iastore, 1) := by decide +kernel
theorem d_M_read_136 : decode prog_9_method_23_code 136 = .ok (.iload 5, 2) := by decide +kernel
theorem d_M_read_138 : decode prog_9_method_23_code 138 = .ok (.ireturn, 1) := by decide +kernel
theorem d_M_read_139 : decode prog_9_method_23_code 139 = .ok (.aload_n 0, 1) := by decide +kernel
theorem d_M_read_140 : decode prog_9_method_23_code 140 = .ok (.getfield 59, 3) := by decide +kernel
theorem d_M_read_143 : decode prog_9_method_23_code 143 = .ok (.iload_n 3, 1) := by decide +kernel
theorem d_M_read_144 : decode prog_9_method_23_code 144 = .ok (.iaload, 1) := by decide +kernel
theorem d_M_read_145 : decode prog_9_method_23_code 145 = .ok (.istore 4, 2) := by decide +kernel
theorem d_M_read_147 : decode prog_9_method_23_code 147 = .ok (.iload 4, 2) := by decide +kernel
theorem d_M_read_149 : decode prog_9_method_23_code 149 = .ok (.aload_n 0, 1) := by decide +kernel
theorem d_M_read_150 : decode prog_9_method_23_code 150 = .ok (.getfield 20, 3) := by decide +kernel
theorem d_M_read_153 : decode prog_9_method_23_code 153 = .ok (.aload_n 0, 1) := by decide +kernel
theorem d_M_read_154 : decode prog_9_method_23_code 154 = .ok (.getfield 53, 3) := by decide +kernel
theorem d_M_read_157 : decode prog_9_method_23_code 157 = .ok (.iload_n 3, 1) := by decide +kernel
theorem d_M_read_158 : decode prog_9_method_23_code 158 = .ok (.iaload, 1) := by decide +kernel
theorem d_M_read_159 : decode prog_9_method_23_code 159 = .ok (.iaload, 1) := by decide +kernel
theorem d_M_read_160 : decode prog_9_method_23_code 160 = .ok (.if_icmp .lt 6, 3) := by decide +kernel
theorem d_M_read_163 : decode prog_9_method_23_code 163 = .ok (.bipush (-7), 2) := by decide +kernel
theorem d_M_read_165 : decode prog_9_method_23_code 165 = .ok (.ireturn, 1) := by decide +kernel
theorem d_M_read_166 : decode prog_9_method_23_code 166 = .ok (.aload_n 0, 1) := by decide +kernel
theorem d_M_read_167 : decode prog_9_method_23_code 167 = .ok (.aload_n 0, 1) := by decide +kernel
theorem d_M_read_168 : decode prog_9_method_23_code 168 = .ok (.getfield 53, 3) := by decide +kernel
theorem d_M_read_171 : decode prog_9_method_23_code 171 = .ok (.iload_n 3, 1) := by decide +kernel
theorem d_M_read_172 : decode prog_9_method_23_code 172 = .ok (.iaload, 1) := by decide +kernel
theorem d_M_read_173 : decode prog_9_method_23_code 173 = .ok (.iload 4, 2) := by decide +kernel
theorem d_M_read_175 : decode prog_9_method_23_code 175 = .ok (.bipush 8, 2) := by decide +kernel
theorem d_M_read_177 : decode prog_9_method_23_code 177 = .ok (.idiv, 1) := by decide +kernel
theorem d_M_read_178 : decode prog_9_method_23_code 178 = .ok (.invokevirtual 133, 3) := by decide +kernel
theorem d_M_read_181 : decode prog_9_method_23_code 181 = .ok (.ifCond .ne 6, 3) := by decide +kernel
theorem d_M_read_184 : decode prog_9_method_23_code 184 = .ok (.bipush (-8), 2) := by decide +kernel
theorem d_M_read_186 : decode prog_9_method_23_code 186 = .ok (.ireturn, 1) := by decide +kernel
theorem d_M_read_187 : decode prog_9_method_23_code 187 = .ok (.aload_n 0, 1) := by decide +kernel
theorem d_M_read_188 : decode prog_9_method_23_code 188 = .ok (.getfield 59, 3) := by decide +kernel
theorem d_M_read_191 : decode prog_9_method_23_code 191 = .ok (.iload_n 3, 1) := by decide +kernel
theorem d_M_read_192 : decode prog_9_method_23_code 192 = .ok (.dup2, 1) := by decide +kernel
theorem d_M_read_193 : decode prog_9_method_23_code 193 = .ok (.iaload, 1) := by decide +kernel
theorem d_M_read_194 : decode prog_9_method_23_code 194 = .ok (.iconst 1, 1) := by decide +kernel
theorem d_M_read_195 : decode prog_9_method_23_code 195 = .ok (.iadd, 1) := by decide +kernel
theorem d_M_read_196 : decode prog_9_method_23_code 196 = .ok (.iastore, 1) := by decide +kernel
theorem d_M_read_197 : decode prog_9_method_23_code 197 = .ok (.aload_n 0, 1) := by decide +kernel
theorem d_M_read_198 : decode prog_9_method_23_code 198 = .ok (.getfield 32, 3) := by decide +kernel
theorem d_M_read_201 : decode prog_9_method_23_code 201 = .ok (.iload 4, 2) := by decide +kernel
theorem d_M_read_203 : decode prog_9_method_23_code 203 = .ok (.bipush 8, 2) := by decide +kernel
theorem d_M_read_205 : decode prog_9_method_23_code 205 = .ok (.irem, 1) := by decide +kernel
theorem d_M_read_206 : decode prog_9_method_23_code 206 = .ok (.iaload, 1) := by decide +kernel
theorem d_M_read_207 : decode prog_9_method_23_code 207 = .ok (.ireturn, 1) := by decide +kernel
theorem d_M_opening_0 : decode prog_9_method_11_code 0 = .ok (.aload_n 0, 1) := by decide +kernel
theorem d_M_opening_1 : decode prog_9_method_11_code 1 = .ok (.iload_n 1, 1) := by decide +kernel
theorem d_M_opening_2 : decode prog_9_method_11_code 2 = .ok (.invokevirtual 86, 3) := by decide +kernel
theorem d_M_opening_5 : decode prog_9_method_11_code 5 = .ok (.ifCond .eq 12, 3) := by decide +kernel
theorem d_M_opening_8 : decode prog_9_method_11_code 8 = .ok (.iload_n 2, 1) := by decide +kernel
theorem d_M_opening_9 : decode prog_9_method_11_code 9 = .ok (.iconst 0, 1) := by decide +kernel
theorem d_M_opening_10 : decode prog_9_method_11_code 10 = .ok (.iconst 5, 1) := by decide +kernel
theorem d_M_opening_11 : decode prog_9_method_11_code 11 = .ok (.invokestatic 78, 3) := by decide +kernel
theorem d_M_opening_14 : decode prog_9_method_11_code 14 = .ok (.ifCond .ne 5, 3) := by decide +kernel
theorem d_M_opening_17 : decode prog_9_method_11_code 17 = .ok (.iconst (-1), 1) := by decide +kernel
theorem d_M_opening_18 : decode prog_9_method_11_code 18 = .ok (.ireturn, 1) := by decide +kernel
theorem d_M_opening_19 : decode prog_9_method_11_code 19 = .ok (.aload_n 0, 1) := by decide +kernel
theorem d_M_opening_20 : decode prog_9_method_11_code 20 = .ok (.getfield 47, 3) := by decide +kernel
theorem d_M_opening_23 : decode prog_9_method_11_code 23 = .ok (.bipush 6, 2) := by decide +kernel
theorem d_M_opening_25 : decode prog_9_method_11_code 25 = .ok (.iload_n 1, 1) := by decide +kernel
theorem d_M_opening_26 : decode prog_9_method_11_code 26 = .ok (.imul, 1) := by decide +kernel
theorem d_M_opening_27 : decode prog_9_method_11_code 27 = .ok (.iload_n 2, 1) := by decide +kernel
theorem d_M_opening_28 : decode prog_9_method_11_code 28 = .ok (.iadd, 1) := by decide +kernel
theorem d_M_opening_29 : decode prog_9_method_11_code 29 = .ok (.iaload, 1) := by decide +kernel
theorem d_M_opening_30 : decode prog_9_method_11_code 30 = .ok (.ifCond .ge 8, 3) := by decide +kernel
theorem d_M_opening_33 : decode prog_9_method_11_code 33 = .ok (.bipush (-3), 2) := by decide +kernel
theorem d_M_opening_35 : decode prog_9_method_11_code 35 = .ok (.goto 14, 3) := by decide +kernel
theorem d_M_opening_38 : decode prog_9_method_11_code 38 = .ok (.aload_n 0, 1) := by decide +kernel
theorem d_M_opening_39 : decode prog_9_method_11_code 39 = .ok (.getfield 47, 3) := by decide +kernel
theorem d_M_opening_42 : decode prog_9_method_11_code 42 = .ok (.bipush 6, 2) := by decide +kernel
theorem d_M_opening_44 : decode prog_9_method_11_code 44 = .ok (.iload_n 1, 1) := by decide +kernel
theorem d_M_opening_45 : decode prog_9_method_11_code 45 = .ok (.imul, 1) := by decide +kernel
theorem d_M_opening_46 : decode prog_9_method_11_code 46 = .ok (.iload_n 2, 1) := by decide +kernel
theorem d_M_opening_47 : decode prog_9_method_11_code 47 = .ok (.iadd, 1) := by decide +kernel
theorem d_M_opening_48 : decode prog_9_method_11_code 48 = .ok (.iaload, 1) := by decide +kernel
theorem d_M_opening_49 : decode prog_9_method_11_code 49 = .ok (.ireturn, 1) := by decide +kernel
theorem d_M_get_0 : decode prog_9_method_16_code 0 = .ok (.iconst 0, 1) := by decide +kernel
theorem d_M_get_1 : decode prog_9_method_16_code 1 = .ok (.istore_n 3, 1) := by decide +kernel
theorem d_M_get_2 : decode prog_9_method_16_code 2 = .ok (.iload_n 3, 1) := by decide +kernel
theorem d_M_get_3 : decode prog_9_method_16_code 3 = .ok (.aload_n 0, 1) := by decide +kernel
theorem d_M_get_4 : decode prog_9_method_16_code 4 = .ok (.getfield 74, 3) := by decide +kernel
theorem d_M_get_7 : decode prog_9_method_16_code 7 = .ok (.if_icmp .ge 31, 3) := by decide +kernel
theorem d_M_get_10 : decode prog_9_method_16_code 10 = .ok (.aload_n 0, 1) := by decide +kernel
theorem d_M_get_11 : decode prog_9_method_16_code 11 = .ok (.getfield 26, 3) := by decide +kernel
theorem d_M_get_14 : decode prog_9_method_16_code 14 = .ok (.iload_n 3, 1) := by decide +kernel
theorem d_M_get_15 : decode prog_9_method_16_code 15 = .ok (.iaload, 1) := by decide +kernel
theorem d_M_get_16 : decode prog_9_method_16_code 16 = .ok (.iload_n 1, 1) := by decide +kernel
theorem d_M_get_17 : decode prog_9_method_16_code 17 = .ok (.bipush 8, 2) := by decide +kernel
theorem d_M_get_19 : decode prog_9_method_16_code 19 = .ok (.iload_n 2, 1) := by decide +kernel
theorem d_M_get_20 : decode prog_9_method_16_code 20 = .ok (.imul, 1) := by decide +kernel
theorem d_M_get_21 : decode prog_9_method_16_code 21 = .ok (.iadd, 1) := by decide +kernel
theorem d_M_get_22 : decode prog_9_method_16_code 22 = .ok (.if_icmp .ne 10, 3) := by decide +kernel
theorem d_M_get_25 : decode prog_9_method_16_code 25 = .ok (.aload_n 0, 1) := by decide +kernel
theorem d_M_get_26 : decode prog_9_method_16_code 26 = .ok (.iload_n 3, 1) := by decide +kernel
theorem d_M_get_27 : decode prog_9_method_16_code 27 = .ok (.invokevirtual 98, 3) := by decide +kernel
theorem d_M_get_30 : decode prog_9_method_16_code 30 = .ok (.iconst 1, 1) := by decide +kernel
theorem d_M_get_31 : decode prog_9_method_16_code 31 = .ok (.ireturn, 1) := by decide +kernel
theorem d_M_get_32 : decode prog_9_method_16_code 32 = .ok (.iinc 3 1, 3) := by decide +kernel
theorem d_M_get_35 : decode prog_9_method_16_code 35 = .ok (.goto (-33), 3) := by decide +kernel
theorem d_M_get_38 : decode prog_9_method_16_code 38 = .ok (.aload_n 0, 1) := by decide +kernel
theorem d_M_get_39 : decode prog_9_method_16_code 39 = .ok (.getfield 74, 3) := by decide +kernel
theorem d_M_get_42 : decode prog_9_method_16_code 42 = .ok (.iconst 5, 1) := by decide +kernel
theorem d_M_get_43 : decode prog_9_method_16_code 43 = .ok (.if_icmp .ne 27, 3) := by decide +kernel
theorem d_M_get_46 : decode prog_9_method_16_code 46 = .ok (.aload_n 0, 1) := by decide +kernel
theorem d_M_get_47 : decode prog_9_method_16_code 47 = .ok (.getfield 29, 3) := by decide +kernel
theorem d_M_get_50 : decode prog_9_method_16_code 50 = .ok (.iconst 4, 1) := by decide +kernel
theorem d_M_get_51 : decode prog_9_method_16_code 51 = .ok (.baload, 1) := by decide +kernel
theorem d_M_get_52 : decode prog_9_method_16_code 52 = .ok (.ifCond .eq 13, 3) := by decide +kernel
theorem d_M_get_55 : decode prog_9_method_16_code 55 = .ok (.aload_n 0, 1) := by decide +kernel
theorem d_M_get_56 : decode prog_9_method_16_code 56 = .ok (.iconst 4, 1) := by decide +kernel
theorem d_M_get_57 : decode prog_9_method_16_code 57 = .ok (.invokevirtual 102, 3) := by decide +kernel
theorem d_M_get_60 : decode prog_9_method_16_code 60 = .ok (.ifCond .ne 5, 3) := by decide +kernel
theorem d_M_get_63 : decode prog_9_method_16_code 63 = .ok (.iconst 0, 1) := by decide +kernel
theorem d_M_get_64 : decode prog_9_method_16_code 64 = .ok (.ireturn, 1) := by decide +kernel
theorem d_M_get_65 : decode prog_9_method_16_code 65 = .ok (.aload_n 0, 1) := by decide +kernel
theorem d_M_get_66 : decode prog_9_method_16_code 66 = .ok (.iconst 4, 1) := by decide +kernel
theorem d_M_get_67 : decode prog_9_method_16_code 67 = .ok (.putfield 74, 3) := by decide +kernel
theorem d_M_get_70 : decode prog_9_method_16_code 70 = .ok (.bipush 8, 2) := by decide +kernel
theorem d_M_get_72 : decode prog_9_method_16_code 72 = .ok (.iload_n 2, 1) := by decide +kernel
theorem d_M_get_73 : decode prog_9_method_16_code 73 = .ok (.imul, 1) := by decide +kernel
theorem d_M_get_74 : decode prog_9_method_16_code 74 = .ok (.aload_n 0, 1) := by decide +kernel
theorem d_M_get_75 : decode prog_9_method_16_code 75 = .ok (.getfield 20, 3) := by decide +kernel
theorem d_M_get_78 : decode prog_9_method_16_code 78 = .ok (.iload_n 1, 1) := by decide +kernel
theorem d_M_get_79 : decode prog_9_method_16_code 79 = .ok (.iaload, 1) := by decide +kernel
theorem d_M_get_80 : decode prog_9_method_16_code 80 = .ok (.if_icmp .ge 7, 3) := by decide +kernel
theorem d_M_get_83 : decode prog_9_method_16_code 83 = .ok (.iconst 1, 1) := by decide +kernel
theorem d_M_get_84 : decode prog_9_method_16_code 84 = .ok (.goto 4, 3) := by decide +kernel
theorem d_M_get_87 : decode prog_9_method_16_code 87 = .ok (.iconst 0, 1) := by decide +kernel
theorem d_M_get_88 : decode prog_9_method_16_code 88 = .ok (.istore_n 3, 1) := by decide +kernel
theorem d_M_get_89 : decode prog_9_method_16_code 89 = .ok (.iload_n 3, 1) := by decide +kernel
theorem d_M_get_90 : decode prog_9_method_16_code 90 = .ok (.ifCond .eq 15, 3) := by decide +kernel
theorem d_M_get_93 : decode prog_9_method_16_code 93 = .ok (.aload_n 0, 1) := by decide +kernel
theorem d_M_get_94 : decode prog_9_method_16_code 94 = .ok (.iconst 0, 1) := by decide +kernel
theorem d_M_get_95 : decode prog_9_method_16_code 95 = .ok (.iload_n 1, 1) := by decide +kernel
theorem d_M_get_96 : decode prog_9_method_16_code 96 = .ok (.iload_n 2, 1) := by decide +kernel
theorem d_M_get_97 : decode prog_9_method_16_code 97 = .ok (.invokevirtual 95, 3) := by decide +kernel
theorem d_M_get_100 : decode prog_9_method_16_code 100 = .ok (.ifCond .ne 5, 3) := by decide +kernel
theorem d_M_get_103 : decode prog_9_method_16_code 103 = .ok (.iconst 0, 1) := by decide +kernel
theorem d_M_get_104 : decode prog_9_method_16_code 104 = .ok (.ireturn, 1) := by decide +kernel
theorem d_M_get_105 : decode prog_9_method_16_code 105 = .ok (.aload_n 0, 1) := by decide +kernel
theorem d_M_get_106 : decode prog_9_method_16_code 106 = .ok (.getfield 26, 3) := by decide +kernel
theorem d_M_get_109 : decode prog_9_method_16_code 109 = .ok (.aload_n 0, 1) := by decide +kernel
theorem d_M_get_110 : decode prog_9_method_16_code 110 = .ok (.getfield 74, 3) := by decide +kernel
theorem d_M_get_113 : decode prog_9_method_16_code 113 = .ok (.iload_n 1, 1) := by decide +kernel
theorem d_M_get_114 : decode prog_9_method_16_code 114 = .ok (.bipush 8, 2) := by decide +kernel
theorem d_M_get_116 : decode prog_9_method_16_code 116 = .ok (.iload_n 2, 1) := by decide +kernel
theorem d_M_get_117 : decode prog_9_method_16_code 117 = .ok (.imul, 1) := by decide +kernel
theorem d_M_get_118 : decode prog_9_method_16_code 118 = .ok (.iadd, 1) := by decide +kernel
theorem d_M_get_119 : decode prog_9_method_16_code 119 = .ok (.iastore, 1) := by decide +kernel
theorem d_M_get_120 : decode prog_9_method_16_code 120 = .ok (.aload_n 0, 1) := by decide +kernel
theorem d_M_get_121 : decode prog_9_method_16_code 121 = .ok (.getfield 29, 3) := by decide +kernel
theorem d_M_get_124 : decode prog_9_method_16_code 124 = .ok (.aload_n 0, 1) := by decide +kernel
theorem d_M_get_125 : decode prog_9_method_16_code 125 = .ok (.getfield 74, 3) := by decide +kernel
theorem d_M_get_128 : decode prog_9_method_16_code 128 = .ok (.iconst 0, 1) := by decide +kernel
theorem d_M_get_129 : decode prog_9_method_16_code 129 = .ok (.bastore, 1) := by decide +kernel
theorem d_M_get_130 : decode prog_9_method_16_code 130 = .ok (.iconst 0, 1) := by decide +kernel
theorem d_M_get_131 : decode prog_9_method_16_code 131 = .ok (.istore 4, 2) := by decide +kernel
theorem d_M_get_133 : decode prog_9_method_16_code 133 = .ok (.iload 4, 2) := by decide +kernel
theorem d_M_get_135 : decode prog_9_method_16_code 135 = .ok (.bipush 8, 2) := by decide +kernel
theorem d_M_get_137 : decode prog_9_method_16_code 137 = .ok (.if_icmp .ge 64, 3) := by decide +kernel
theorem d_M_get_140 : decode prog_9_method_16_code 140 = .ok (.bipush 8, 2) := by decide +kernel
theorem d_M_get_142 : decode prog_9_method_16_code 142 = .ok (.iload_n 2, 1) := by decide +kernel
theorem d_M_get_143 : decode prog_9_method_16_code 143 = .ok (.imul, 1) := by decide +kernel
theorem d_M_get_144 : decode prog_9_method_16_code 144 = .ok (.iload 4, 2) := by decide +kernel
theorem d_M_get_146 : decode prog_9_method_16_code 146 = .ok (.iadd, 1) := by decide +kernel
theorem d_M_get_147 : decode prog_9_method_16_code 147 = .ok (.istore 5, 2) := by decide +kernel
theorem d_M_get_149 : decode prog_9_method_16_code 149 = .ok (.aload_n 0, 1) := by decide +kernel
theorem d_M_get_150 : decode prog_9_method_16_code 150 = .ok (.getfield 32, 3) := by decide +kernel
theorem d_M_get_153 : decode prog_9_method_16_code 153 = .ok (.bipush 8, 2) := by decide +kernel
theorem d_M_get_155 : decode prog_9_method_16_code 155 = .ok (.aload_n 0, 1) := by decide +kernel
theorem d_M_get_156 : decode prog_9_method_16_code 156 = .ok (.getfield 74, 3) := by decide +kernel
theorem d_M_get_159 : decode prog_9_method_16_code 159 = .ok (.imul, 1) := by decide +kernel
theorem d_M_get_160 : decode prog_9_method_16_code 160 = .ok (.iload 4, 2) := by decide +kernel
theorem d_M_get_162 : decode prog_9_method_16_code 162 = .ok (.iadd, 1) := by decide +kernel
theorem d_M_get_163 : decode prog_9_method_16_code 163 = .ok (.iload_n 3, 1) := by decide +kernel
theorem d_M_get_164 : decode prog_9_method_16_code 164 = .ok (.ifCond .eq 29, 3) := by decide +kernel
theorem d_M_get_167 : decode prog_9_method_16_code 167 = .ok (.iload 5, 2) := by decide +kernel
theorem d_M_get_169 : decode prog_9_method_16_code 169 = .ok (.aload_n 0, 1) := by decide +kernel
theorem d_M_get_170 : decode prog_9_method_16_code 170 = .ok (.getfield 20, 3) := by decide +kernel
theorem d_M_get_173 : decode prog_9_method_16_code 173 = .ok (.iload_n 1, 1) := by decide +kernel
theorem d_M_get_174 : decode prog_9_method_16_code 174 = .ok (.iaload, 1) := by decide +kernel
theorem d_M_get_175 : decode prog_9_method_16_code 175 = .ok (.if_icmp .ge 18, 3) := by decide +kernel
theorem d_M_get_178 : decode prog_9_method_16_code 178 = .ok (.aload_n 0, 1) := by decide +kernel
theorem d_M_get_179 : decode prog_9_method_16_code 179 = .ok (.getfield 17, 3) := by decide +kernel
theorem d_M_get_182 : decode prog_9_method_16_code 182 = .ok (.bipush 32, 2) := by decide +kernel
theorem d_M_get_184 : decode prog_9_method_16_code 184 = .ok (.iload_n 1, 1) := by decide +kernel
theorem d_M_get_185 : decode prog_9_method_16_code 185 = .ok (.imul, 1) := by decide +kernel
theorem d_M_get_186 : decode prog_9_method_16_code 186 = .ok (.iload 5, 2) := by decide +kernel
theorem d_M_get_188 : decode prog_9_method_16_code 188 = .ok (.iadd, 1) := by decide +kernel
theorem d_M_get_189 : decode prog_9_method_16_code 189 = .ok (.iaload, 1) := by decide +kernel
theorem d_M_get_190 : decode prog_9_method_16_code 190 = .ok (.goto 4, 3) := by decide +kernel
theorem d_M_get_193 : decode prog_9_method_16_code 193 = .ok (.iconst 0, 1) := by decide +kernel
theorem d_M_get_194 : decode prog_9_method_16_code 194 = .ok (.iastore, 1) := by decide +kernel
theorem d_M_get_195 : decode prog_9_method_16_code 195 = .ok (.iinc 4 1, 3) := by decide +kernel
theorem d_M_get_198 : decode prog_9_method_16_code 198 = .ok (.goto (-65), 3) := by decide +kernel
theorem d_M_get_201 : decode prog_9_method_16_code 201 = .ok (.aload_n 0, 1) := by decide +kernel
theorem d_M_get_202 : decode prog_9_method_16_code 202 = .ok (.dup, 1) := by decide +kernel
theorem d_M_get_203 : decode prog_9_method_16_code 203 = .ok (.getfield 74, 3) := by decide +kernel
theorem d_M_get_206 : decode prog_9_method_16_code 206 = .ok (.iconst 1, 1) := by decide +kernel
theorem d_M_get_207 : decode prog_9_method_16_code 207 = .ok (.iadd, 1) := by decide +kernel
theorem d_M_get_208 : decode prog_9_method_16_code 208 = .ok (.putfield 74, 3) := by decide +kernel
theorem d_M_get_211 : decode prog_9_method_16_code 211 = .ok (.aload_n 0, 1) := by decide +kernel
theorem d_M_get_212 : decode prog_9_method_16_code 212 = .ok (.aload_n 0, 1) := by decide +kernel
theorem d_M_get_213 : decode prog_9_method_16_code 213 = .ok (.getfield 74, 3) := by decide +kernel
theorem d_M_get_216 : decode prog_9_method_16_code 216 = .ok (.iconst 1, 1) := by decide +kernel
theorem d_M_get_217 : decode prog_9_method_16_code 217 = .ok (.isub, 1) := by decide +kernel
theorem d_M_get_218 : decode prog_9_method_16_code 218 = .ok (.invokevirtual 98, 3) := by decide +kernel
theorem d_M_get_221 : decode prog_9_method_16_code 221 = .ok (.iconst 1, 1) := by decide +kernel
theorem d_M_get_222 : decode prog_9_method_16_code 222 = .ok (.ireturn, 1) := by decide +kernel
theorem d_M_toFront_0 : decode prog_9_method_15_code 0 = .ok (.aload_n 0, 1) := by decide +kernel
theorem d_M_toFront_1 : decode prog_9_method_15_code 1 = .ok (.getfield 26, 3) := by decide +kernel
theorem d_M_toFront_4 : decode prog_9_method_15_code 4 = .ok (.iload_n 1, 1) := by decide +kernel
theorem d_M_toFront_5 : decode prog_9_method_15_code 5 = .ok (.iaload, 1) := by decide +kernel
theorem d_M_toFront_6 : decode prog_9_method_15_code 6 = .ok (.istore_n 2, 1) := by decide +kernel
theorem d_M_toFront_7 : decode prog_9_method_15_code 7 = .ok (.aload_n 0, 1) := by decide +kernel
theorem d_M_toFront_8 : decode prog_9_method_15_code 8 = .ok (.getfield 29, 3) := by decide +kernel
theorem d_M_toFront_11 : decode prog_9_method_15_code 11 = .ok (.iload_n 1, 1) := by decide +kernel
theorem d_M_toFront_12 : decode prog_9_method_15_code 12 = .ok (.baload, 1) := by decide +kernel
theorem d_M_toFront_13 : decode prog_9_method_15_code 13 = .ok (.istore_n 3, 1) := by decide +kernel
theorem d_M_toFront_14 : decode prog_9_method_15_code 14 = .ok (.iconst 0, 1) := by decide +kernel
theorem d_M_toFront_15 : decode prog_9_method_15_code 15 = .ok (.istore 4, 2) := by decide +kernel
theorem d_M_toFront_17 : decode prog_9_method_15_code 17 = .ok (.iload 4, 2) := by decide +kernel
theorem d_M_toFront_19 : decode prog_9_method_15_code 19 = .ok (.bipush 8, 2) := by decide +kernel
theorem d_M_toFront_21 : decode prog_9_method_15_code 21 = .ok (.if_icmp .ge 31, 3) := by decide +kernel
theorem d_M_toFront_24 : decode prog_9_method_15_code 24 = .ok (.aload_n 0, 1) := by decide +kernel
theorem d_M_toFront_25 : decode prog_9_method_15_code 25 = .ok (.getfield 32, 3) := by decide +kernel
theorem d_M_toFront_28 : decode prog_9_method_15_code 28 = .ok (.bipush 40, 2) := by decide +kernel
theorem d_M_toFront_30 : decode prog_9_method_15_code 30 = .ok (.iload 4, 2) := by decide +kernel
theorem d_M_toFront_32 : decode prog_9_method_15_code 32 = .ok (.iadd, 1) := by decide +kernel
theorem d_M_toFront_33 : decode prog_9_method_15_code 33 = .ok (.aload_n 0, 1) := by decide +kernel
theorem d_M_toFront_34 : decode prog_9_method_15_code 34 = .ok (.getfield 32, 3) := by decide +kernel
theorem d_M_toFront_37 : decode prog_9_method_15_code 37 = .ok (.bipush 8, 2) := by decide +kernel
theorem d_M_toFront_39 : decode prog_9_method_15_code 39 = .ok (.iload_n 1, 1) := by decide +kernel
theorem d_M_toFront_40 : decode prog_9_method_15_code 40 = .ok (.imul, 1) := by decide +kernel
theorem d_M_toFront_41 : decode prog_9_method_15_code 41 = .ok (.iload 4, 2) := by decide +kernel
theorem d_M_toFront_43 : decode prog_9_method_15_code 43 = .ok (.iadd, 1) := by decide +kernel
theorem d_M_toFront_44 : decode prog_9_method_15_code 44 = .ok (.iaload, 1) := by decide +kernel
theorem d_M_toFront_45 : decode prog_9_method_15_code 45 = .ok (.iastore, 1) := by decide +kernel
theorem d_M_toFront_46 : decode prog_9_method_15_code 46 = .ok (.iinc 4 1, 3) := by decide +kernel
theorem d_M_toFront_49 : decode prog_9_method_15_code 49 = .ok (.goto (-32), 3) := by decide +kernel
theorem d_M_toFront_52 : decode prog_9_method_15_code 52 = .ok (.iload_n 1, 1) := by decide +kernel
theorem d_M_toFront_53 : decode prog_9_method_15_code 53 = .ok (.istore 4, 2) := by decide +kernel
theorem d_M_toFront_55 : decode prog_9_method_15_code 55 = .ok (.iload 4, 2) := by decide +kernel
theorem d_M_toFront_57 : decode prog_9_method_15_code 57 = .ok (.ifCond .le 86, 3) := by decide +kernel
theorem d_M_toFront_60 : decode prog_9_method_15_code 60 = .ok (.aload_n 0, 1) := by decide +kernel
theorem d_M_toFront_61 : decode prog_9_method_15_code 61 = .ok (.getfield 26, 3) := by decide +kernel
theorem d_M_toFront_64 : decode prog_9_method_15_code 64 = .ok (.iload 4, 2) := by decide +kernel
theorem d_M_toFront_66 : decode prog_9_method_15_code 66 = .ok (.aload_n 0, 1) := by decide +kernel
theorem d_M_toFront_67 : decode prog_9_method_15_code 67 = .ok (.getfield 26, 3) := by decide +kernel
theorem d_M_toFront_70 : decode prog_9_method_15_code 70 = .ok (.iload 4, 2) := by decide +kernel
theorem d_M_toFront_72 : decode prog_9_method_15_code 72 = .ok (.iconst 1, 1) := by decide +kernel
theorem d_M_toFront_73 : decode prog_9_method_15_code 73 = .ok (.isub, 1) := by decide +kernel
theorem d_M_toFront_74 : decode prog_9_method_15_code 74 = .ok (.iaload, 1) := by decide +kernel
theorem d_M_toFront_75 : decode prog_9_method_15_code 75 = .ok (.iastore, 1) := by decide +kernel
theorem d_M_toFront_76 : decode prog_9_method_15_code 76 = .ok (.aload_n 0, 1) := by decide +kernel
theorem d_M_toFront_77 : decode prog_9_method_15_code 77 = .ok (.getfield 29, 3) := by decide +kernel
theorem d_M_toFront_80 : decode prog_9_method_15_code 80 = .ok (.iload 4, 2) := by decide +kernel
theorem d_M_toFront_82 : decode prog_9_method_15_code 82 = .ok (.aload_n 0, 1) := by decide +kernel
theorem d_M_toFront_83 : decode prog_9_method_15_code 83 = .ok (.getfield 29, 3) := by decide +kernel
theorem d_M_toFront_86 : decode prog_9_method_15_code 86 = .ok (.iload 4, 2) := by decide +kernel
theorem d_M_toFront_88 : decode prog_9_method_15_code 88 = .ok (.iconst 1, 1) := by decide +kernel
theorem d_M_toFront_89 : decode prog_9_method_15_code 89 = .ok (.isub, 1) := by decide +kernel
theorem d_M_toFront_90 : decode prog_9_method_15_code 90 = .ok (.baload, 1) := by decide +kernel
theorem d_M_toFront_91 : decode prog_9_method_15_code 91 = .ok (.bastore, 1) := by decide +kernel
theorem d_M_toFront_92 : decode prog_9_method_15_code 92 = .ok (.iconst 0, 1) := by decide +kernel
theorem d_M_toFront_93 : decode prog_9_method_15_code 93 = .ok (.istore 5, 2) := by decide +kernel
theorem d_M_toFront_95 : decode prog_9_method_15_code 95 = .ok (.iload 5, 2) := by decide +kernel
theorem d_M_toFront_97 : decode prog_9_method_15_code 97 = .ok (.bipush 8, 2) := by decide +kernel
theorem d_M_toFront_99 : decode prog_9_method_15_code 99 = .ok (.if_icmp .ge 38, 3) := by decide +kernel
theorem d_M_toFront_102 : decode prog_9_method_15_code 102 = .ok (.aload_n 0, 1) := by decide +kernel
theorem d_M_toFront_103 : decode prog_9_method_15_code 103 = .ok (.getfield 32, 3) := by decide +kernel
theorem d_M_toFront_106 : decode prog_9_method_15_code 106 = .ok (.bipush 8, 2) := by decide +kernel
theorem d_M_toFront_108 : decode prog_9_method_15_code 108 = .ok (.iload 4, 2) := by decide +kernel
theorem d_M_toFront_110 : decode prog_9_method_15_code 110 = .ok (.imul, 1) := by decide +kernel
theorem d_M_toFront_111 : decode prog_9_method_15_code 111 = .ok (.iload 5, 2) := by decide +kernel
theorem d_M_toFront_113 : decode prog_9_method_15_code 113 = .ok (.iadd, 1) := by decide +kernel
theorem d_M_toFront_114 : decode prog_9_method_15_code 114 = .ok (.aload_n 0, 1) := by decide +kernel
theorem d_M_toFront_115 : decode prog_9_method_15_code 115 = .ok (.getfield 32, 3) := by decide +kernel
theorem d_M_toFront_118 : decode prog_9_method_15_code 118 = .ok (.bipush 8, 2) := by decide +kernel
theorem d_M_toFront_120 : decode prog_9_method_15_code 120 = .ok (.iload 4, 2) := by decide +kernel
theorem d_M_toFront_122 : decode prog_9_method_15_code 122 = .ok (.imul, 1) := by decide +kernel
theorem d_M_toFront_123 : decode prog_9_method_15_code 123 = .ok (.bipush 8, 2) := by decide +kernel
theorem d_M_toFront_125 : decode prog_9_method_15_code 125 = .ok (.isub, 1) := by decide +kernel
theorem d_M_toFront_126 : decode prog_9_method_15_code 126 = .ok (.iload 5, 2) := by decide +kernel
theorem d_M_toFront_128 : decode prog_9_method_15_code 128 = .ok (.iadd, 1) := by decide +kernel
theorem d_M_toFront_129 : decode prog_9_method_15_code 129 = .ok (.iaload, 1) := by decide +kernel
theorem d_M_toFront_130 : decode prog_9_method_15_code 130 = .ok (.iastore, 1) := by decide +kernel
theorem d_M_toFront_131 : decode prog_9_method_15_code 131 = .ok (.iinc 5 1, 3) := by decide +kernel
theorem d_M_toFront_134 : decode prog_9_method_15_code 134 = .ok (.goto (-39), 3) := by decide +kernel
theorem d_M_toFront_137 : decode prog_9_method_15_code 137 = .ok (.iinc 4 (-1), 3) := by decide +kernel
theorem d_M_toFront_140 : decode prog_9_method_15_code 140 = .ok (.goto (-85), 3) := by decide +kernel
theorem d_M_toFront_143 : decode prog_9_method_15_code 143 = .ok (.aload_n 0, 1) := by decide +kernel
theorem d_M_toFront_144 : decode prog_9_method_15_code 144 = .ok (.getfield 26, 3) := by decide +kernel
theorem d_M_toFront_147 : decode prog_9_method_15_code 147 = .ok (.iconst 0, 1) := by decide +kernel
theorem d_M_toFront_148 : decode prog_9_method_15_code 148 = .ok (.iload_n 2, 1) := by decide +kernel
theorem d_M_toFront_149 : decode prog_9_method_15_code 149 = .ok (.iastore, 1) := by decide +kernel
theorem d_M_toFront_150 : decode prog_9_method_15_code 150 = .ok (.aload_n 0, 1) := by decide +kernel
theorem d_M_toFront_151 : decode prog_9_method_15_code 151 = .ok (.getfield 29, 3) := by decide +kernel
theorem d_M_toFront_154 : decode prog_9_method_15_code 154 = .ok (.iconst 0, 1) := by decide +kernel
theorem d_M_toFront_155 : decode prog_9_method_15_code 155 = .ok (.iload_n 3, 1) := by decide +kernel
theorem d_M_toFront_156 : decode prog_9_method_15_code 156 = .ok (.bastore, 1) := by decide +kernel
theorem d_M_toFront_157 : decode prog_9_method_15_code 157 = .ok (.iconst 0, 1) := by decide +kernel
theorem d_M_toFront_158 : decode prog_9_method_15_code 158 = .ok (.istore 4, 2) := by decide +kernel
theorem d_M_toFront_160 : decode prog_9_method_15_code 160 = .ok (.iload 4, 2) := by decide +kernel
theorem d_M_toFront_162 : decode prog_9_method_15_code 162 = .ok (.bipush 8, 2) := by decide +kernel
theorem d_M_toFront_164 : decode prog_9_method_15_code 164 = .ok (.if_icmp .ge 26, 3) := by decide +kernel
theorem d_M_toFront_167 : decode prog_9_method_15_code 167 = .ok (.aload_n 0, 1) := by decide +kernel
theorem d_M_toFront_168 : decode prog_9_method_15_code 168 = .ok (.getfield 32, 3) := by decide +kernel
theorem d_M_toFront_171 : decode prog_9_method_15_code 171 = .ok (.iload 4, 2) := by decide +kernel
theorem d_M_toFront_173 : decode prog_9_method_15_code 173 = .ok (.aload_n 0, 1) := by decide +kernel
theorem d_M_toFront_174 : decode prog_9_method_15_code 174 = .ok (.getfield 32, 3) := by decide +kernel
theorem d_M_toFront_177 : decode prog_9_method_15_code 177 = .ok (.bipush 40, 2) := by decide +kernel
theorem d_M_toFront_179 : decode prog_9_method_15_code 179 = .ok (.iload 4, 2) := by decide +kernel
theorem d_M_toFront_181 : decode prog_9_method_15_code 181 = .ok (.iadd, 1) := by decide +kernel
theorem d_M_toFront_182 : decode prog_9_method_15_code 182 = .ok (.iaload, 1) := by decide +kernel
theorem d_M_toFront_183 : decode prog_9_method_15_code 183 = .ok (.iastore, 1) := by decide +kernel
theorem d_M_toFront_184 : decode prog_9_method_15_code 184 = .ok (.iinc 4 1, 3) := by decide +kernel
theorem d_M_toFront_187 : decode prog_9_method_15_code 187 = .ok (.goto (-27), 3) := by decide +kernel
theorem d_M_toFront_190 : decode prog_9_method_15_code 190 = .ok (.return_, 1) := by decide +kernel
theorem d_M_writeBack_0 : decode prog_9_method_13_code 0 = .ok (.aload_n 0, 1) := by decide +kernel
theorem d_M_writeBack_1 : decode prog_9_method_13_code 1 = .ok (.getfield 26, 3) := by decide +kernel
theorem d_M_writeBack_4 : decode prog_9_method_13_code 4 = .ok (.iload_n 1, 1) := by decide +kernel
theorem d_M_writeBack_5 : decode prog_9_method_13_code 5 = .ok (.iaload, 1) := by decide +kernel
theorem d_M_writeBack_6 : decode prog_9_method_13_code 6 = .ok (.bipush 7, 2) := by decide +kernel
theorem d_M_writeBack_8 : decode prog_9_method_13_code 8 = .ok (.iand, 1) := by decide +kernel
theorem d_M_writeBack_9 : decode prog_9_method_13_code 9 = .ok (.istore_n 2, 1) := by decide +kernel
theorem d_M_writeBack_10 : decode prog_9_method_13_code 10 = .ok (.aload_n 0, 1) := by decide +kernel
theorem d_M_writeBack_11 : decode prog_9_method_13_code 11 = .ok (.getfield 26, 3) := by decide +kernel
theorem d_M_writeBack_14 : decode prog_9_method_13_code 14 = .ok (.iload_n 1, 1) := by decide +kernel
theorem d_M_writeBack_15 : decode prog_9_method_13_code 15 = .ok (.iaload, 1) := by decide +kernel
theorem d_M_writeBack_16 : decode prog_9_method_13_code 16 = .ok (.iconst 3, 1) := by decide +kernel
theorem d_M_writeBack_17 : decode prog_9_method_13_code 17 = .ok (.ishr, 1) := by decide +kernel
theorem d_M_writeBack_18 : decode prog_9_method_13_code 18 = .ok (.istore_n 3, 1) := by decide +kernel
theorem d_M_writeBack_19 : decode prog_9_method_13_code 19 = .ok (.aload_n 0, 1) := by decide +kernel
theorem d_M_writeBack_20 : decode prog_9_method_13_code 20 = .ok (.iconst 1, 1) := by decide +kernel
theorem d_M_writeBack_21 : decode prog_9_method_13_code 21 = .ok (.iload_n 2, 1) := by decide +kernel
theorem d_M_writeBack_22 : decode prog_9_method_13_code 22 = .ok (.iload_n 3, 1) := by decide +kernel
theorem d_M_writeBack_23 : decode prog_9_method_13_code 23 = .ok (.invokevirtual 95, 3) := by decide +kernel
theorem d_M_writeBack_26 : decode prog_9_method_13_code 26 = .ok (.ifCond .ne 5, 3) := by decide +kernel
theorem d_M_writeBack_29 : decode prog_9_method_13_code 29 = .ok (.iconst 0, 1) := by decide +kernel
theorem d_M_writeBack_30 : decode prog_9_method_13_code 30 = .ok (.ireturn, 1) := by decide +kernel
theorem d_M_writeBack_31 : decode prog_9_method_13_code 31 = .ok (.iconst 0, 1) := by decide +kernel
theorem d_M_writeBack_32 : decode prog_9_method_13_code 32 = .ok (.istore 4, 2) := by decide +kernel
theorem d_M_writeBack_34 : decode prog_9_method_13_code 34 = .ok (.iload 4, 2) := by decide +kernel
theorem d_M_writeBack_36 : decode prog_9_method_13_code 36 = .ok (.bipush 8, 2) := by decide +kernel
theorem d_M_writeBack_38 : decode prog_9_method_13_code 38 = .ok (.if_icmp .ge 77, 3) := by decide +kernel
theorem d_M_writeBack_41 : decode prog_9_method_13_code 41 = .ok (.bipush 8, 2) := by decide +kernel
theorem d_M_writeBack_43 : decode prog_9_method_13_code 43 = .ok (.iload_n 3, 1) := by decide +kernel
theorem d_M_writeBack_44 : decode prog_9_method_13_code 44 = .ok (.imul, 1) := by decide +kernel
theorem d_M_writeBack_45 : decode prog_9_method_13_code 45 = .ok (.iload 4, 2) := by decide +kernel
theorem d_M_writeBack_47 : decode prog_9_method_13_code 47 = .ok (.iadd, 1) := by decide +kernel
theorem d_M_writeBack_48 : decode prog_9_method_13_code 48 = .ok (.istore 5, 2) := by decide +kernel
theorem d_M_writeBack_50 : decode prog_9_method_13_code 50 = .ok (.iload 5, 2) := by decide +kernel
theorem d_M_writeBack_52 : decode prog_9_method_13_code 52 = .ok (.aload_n 0, 1) := by decide +kernel
theorem d_M_writeBack_53 : decode prog_9_method_13_code 53 = .ok (.getfield 20, 3) := by decide +kernel
theorem d_M_writeBack_56 : decode prog_9_method_13_code 56 = .ok (.iload_n 2, 1) := by decide +kernel
theorem d_M_writeBack_57 : decode prog_9_method_13_code 57 = .ok (.iaload, 1) := by decide +kernel
theorem d_M_writeBack_58 : decode prog_9_method_13_code 58 = .ok (.if_icmp .lt 6, 3) := by decide +kernel
theorem d_M_writeBack_61 : decode prog_9_method_13_code 61 = .ok (.goto 48, 3) := by decide +kernel
theorem d_M_writeBack_64 : decode prog_9_method_13_code 64 = .ok (.aload_n 0, 1) := by decide +kernel
theorem d_M_writeBack_65 : decode prog_9_method_13_code 65 = .ok (.getfield 17, 3) := by decide +kernel
theorem d_M_writeBack_68 : decode prog_9_method_13_code 68 = .ok (.bipush 32, 2) := by decide +kernel
theorem d_M_writeBack_70 : decode prog_9_method_13_code 70 = .ok (.iload_n 2, 1) := by decide +kernel
theorem d_M_writeBack_71 : decode prog_9_method_13_code 71 = .ok (.imul, 1) := by decide +kernel
theorem d_M_writeBack_72 : decode prog_9_method_13_code 72 = .ok (.iload 5, 2) := by decide +kernel
theorem d_M_writeBack_74 : decode prog_9_method_13_code 74 = .ok (.iadd, 1) := by decide +kernel
theorem d_M_writeBack_75 : decode prog_9_method_13_code 75 = .ok (.aload_n 0, 1) := by decide +kernel
theorem d_M_writeBack_76 : decode prog_9_method_13_code 76 = .ok (.getfield 32, 3) := by decide +kernel
theorem d_M_writeBack_79 : decode prog_9_method_13_code 79 = .ok (.bipush 8, 2) := by decide +kernel
theorem d_M_writeBack_81 : decode prog_9_method_13_code 81 = .ok (.iload_n 1, 1) := by decide +kernel
theorem d_M_writeBack_82 : decode prog_9_method_13_code 82 = .ok (.imul, 1) := by decide +kernel
theorem d_M_writeBack_83 : decode prog_9_method_13_code 83 = .ok (.iload 4, 2) := by decide +kernel
theorem d_M_writeBack_85 : decode prog_9_method_13_code 85 = .ok (.iadd, 1) := by decide +kernel
theorem d_M_writeBack_86 : decode prog_9_method_13_code 86 = .ok (.iaload, 1) := by decide +kernel
theorem d_M_writeBack_87 : decode prog_9_method_13_code 87 = .ok (.iastore, 1) := by decide +kernel
theorem d_M_writeBack_88 : decode prog_9_method_13_code 88 = .ok (.aload_n 0, 1) := by decide +kernel
theorem d_M_writeBack_89 : decode prog_9_method_13_code 89 = .ok (.getfield 13, 3) := by decide +kernel
theorem d_M_writeBack_92 : decode prog_9_method_13_code 92 = .ok (.iload_n 2, 1) := by decide +kernel
theorem d_M_writeBack_93 : decode prog_9_method_13_code 93 = .ok (.iaload, 1) := by decide +kernel
theorem d_M_writeBack_94 : decode prog_9_method_13_code 94 = .ok (.iload 5, 2) := by decide +kernel
theorem d_M_writeBack_96 : decode prog_9_method_13_code 96 = .ok (.if_icmp .gt 13, 3) := by decide +kernel
theorem d_M_writeBack_99 : decode prog_9_method_13_code 99 = .ok (.aload_n 0, 1) := by decide +kernel
theorem d_M_writeBack_100 : decode prog_9_method_13_code 100 = .ok (.getfield 13, 3) := by decide +kernel
theorem d_M_writeBack_103 : decode prog_9_method_13_code 103 = .ok (.iload_n 2, 1) := by decide +kernel
theorem d_M_writeBack_104 : decode prog_9_method_13_code 104 = .ok (.iload 5, 2) := by decide +kernel
theorem d_M_writeBack_106 : decode prog_9_method_13_code 106 = .ok (.iconst 1, 1) := by decide +kernel
theorem d_M_writeBack_107 : decode prog_9_method_13_code 107 = .ok (.iadd, 1) := by decide +kernel
theorem d_M_writeBack_108 : decode prog_9_method_13_code 108 = .ok (.iastore, 1) := by decide +kernel
theorem d_M_writeBack_109 : decode prog_9_method_13_code 109 = .ok (.iinc 4 1, 3) := by decide +kernel
theorem d_M_writeBack_112 : decode prog_9_method_13_code 112 = .ok (.goto (-78), 3) := by decide +kernel
theorem d_M_writeBack_115 : decode prog_9_method_13_code 115 = .ok (.aload_n 0, 1) := by decide +kernel
theorem d_M_writeBack_116 : decode prog_9_method_13_code 116 = .ok (.getfield 29, 3) := by decide +kernel
theorem d_M_writeBack_119 : decode prog_9_method_13_code 119 = .ok (.iload_n 1, 1) := by decide +kernel
theorem d_M_writeBack_120 : decode prog_9_method_13_code 120 = .ok (.iconst 0, 1) := by decide +kernel
theorem d_M_writeBack_121 : decode prog_9_method_13_code 121 = .ok (.bastore, 1) := by decide +kernel
theorem d_M_writeBack_122 : decode prog_9_method_13_code 122 = .ok (.iconst 1, 1) := by decide +kernel
theorem d_M_writeBack_123 : decode prog_9_method_13_code 123 = .ok (.ireturn, 1) := by decide +kernel
theorem d_M_write_0 : decode prog_9_method_24_code 0 = .ok (.aload_n 0, 1) := by decide +kernel
theorem d_M_write_1 : decode prog_9_method_24_code 1 = .ok (.iload_n 1, 1) := by decide +kernel
theorem d_M_write_2 : decode prog_9_method_24_code 2 = .ok (.invokevirtual 86, 3) := by decide +kernel
theorem d_M_write_5 : decode prog_9_method_24_code 5 = .ok (.ifCond .eq 16, 3) := by decide +kernel
theorem d_M_write_8 : decode prog_9_method_24_code 8 = .ok (.iload_n 3, 1) := by decide +kernel
theorem d_M_write_9 : decode prog_9_method_24_code 9 = .ok (.iconst 0, 1) := by decide +kernel
theorem d_M_write_10 : decode prog_9_method_24_code 10 = .ok (.sipush 255, 3) := by decide +kernel
theorem d_M_write_13 : decode prog_9_method_24_code 13 = .ok (.invokestatic 78, 3) := by decide +kernel
theorem d_M_write_16 : decode prog_9_method_24_code 16 = .ok (.ifCond .ne 5, 3) := by decide +kernel
theorem d_M_write_19 : decode prog_9_method_24_code 19 = .ok (.iconst (-1), 1) := by decide +kernel
theorem d_M_write_20 : decode prog_9_method_24_code 20 = .ok (.ireturn, 1) := by decide +kernel
theorem d_M_write_21 : decode prog_9_method_24_code 21 = .ok (.aload_n 0, 1) := by decide +kernel
theorem d_M_write_22 : decode prog_9_method_24_code 22 = .ok (.iload_n 1, 1) := by decide +kernel
theorem d_M_write_23 : decode prog_9_method_24_code 23 = .ok (.iload_n 2, 1) := by decide +kernel
theorem d_M_write_24 : decode prog_9_method_24_code 24 = .ok (.invokevirtual 130, 3) := by decide +kernel
theorem d_M_write_27 : decode prog_9_method_24_code 27 = .ok (.istore 4, 2) := by decide +kernel
theorem d_M_write_29 : decode prog_9_method_24_code 29 = .ok (.iload 4, 2) := by decide +kernel
theorem d_M_write_31 : decode prog_9_method_24_code 31 = .ok (.ifCond .ge 6, 3) := by decide +kernel
theorem d_M_write_34 : decode prog_9_method_24_code 34 = .ok (.iload 4, 2) := by decide +kernel
theorem d_M_write_36 : decode prog_9_method_24_code 36 = .ok (.ireturn, 1) := by decide +kernel
theorem d_M_write_37 : decode prog_9_method_24_code 37 = .ok (.aload_n 0, 1) := by decide +kernel
theorem d_M_write_38 : decode prog_9_method_24_code 38 = .ok (.getfield 56, 3) := by decide +kernel
theorem d_M_write_41 : decode prog_9_method_24_code 41 = .ok (.iload 4, 2) := by decide +kernel
theorem d_M_write_43 : decode prog_9_method_24_code 43 = .ok (.iaload, 1) := by decide +kernel
theorem d_M_write_44 : decode prog_9_method_24_code 44 = .ok (.iconst 2, 1) := by decide +kernel
theorem d_M_write_45 : decode prog_9_method_24_code 45 = .ok (.iand, 1) := by decide +kernel
theorem d_M_write_46 : decode prog_9_method_24_code 46 = .ok (.ifCond .ne 6, 3) := by decide +kernel
theorem d_M_write_49 : decode prog_9_method_24_code 49 = .ok (.bipush (-3), 2) := by decide +kernel
theorem d_M_write_51 : decode prog_9_method_24_code 51 = .ok (.ireturn, 1) := by decide +kernel
theorem d_M_write_52 : decode prog_9_method_24_code 52 = .ok (.aload_n 0, 1) := by decide +kernel
theorem d_M_write_53 : decode prog_9_method_24_code 53 = .ok (.getfield 53, 3) := by decide +kernel
theorem d_M_write_56 : decode prog_9_method_24_code 56 = .ok (.iload 4, 2) := by decide +kernel
theorem d_M_write_58 : decode prog_9_method_24_code 58 = .ok (.iaload, 1) := by decide +kernel
theorem d_M_write_59 : decode prog_9_method_24_code 59 = .ok (.istore 5, 2) := by decide +kernel
theorem d_M_write_61 : decode prog_9_method_24_code 61 = .ok (.aload_n 0, 1) := by decide +kernel
theorem d_M_write_62 : decode prog_9_method_24_code 62 = .ok (.getfield 50, 3) := by decide +kernel
theorem d_M_write_65 : decode prog_9_method_24_code 65 = .ok (.iload 4, 2) := by decide +kernel
theorem d_M_write_67 : decode prog_9_method_24_code 67 = .ok (.iaload, 1) := by decide +kernel
theorem d_M_write_68 : decode prog_9_method_24_code 68 = .ok (.iconst 2, 1) := by decide +kernel
theorem d_M_write_69 : decode prog_9_method_24_code 69 = .ok (.if_icmp .ne 61, 3) := by decide +kernel
theorem d_M_write_72 : decode prog_9_method_24_code 72 = .ok (.aload_n 0, 1) := by decide +kernel
theorem d_M_write_73 : decode prog_9_method_24_code 73 = .ok (.iload 5, 2) := by decide +kernel
theorem d_M_write_75 : decode prog_9_method_24_code 75 = .ok (.iconst 1, 1) := by decide +kernel
theorem d_M_write_76 : decode prog_9_method_24_code 76 = .ok (.invokevirtual 126, 3) := by decide +kernel
theorem d_M_write_79 : decode prog_9_method_24_code 79 = .ok (.ifCond .ne 6, 3) := by decide +kernel
theorem d_M_write_82 : decode prog_9_method_24_code 82 = .ok (.bipush (-7), 2) := by decide +kernel
theorem d_M_write_84 : decode prog_9_method_24_code 84 = .ok (.ireturn, 1) := by decide +kernel
theorem d_M_write_85 : decode prog_9_method_24_code 85 = .ok (.aload_n 0, 1) := by decide +kernel
theorem d_M_write_86 : decode prog_9_method_24_code 86 = .ok (.getfield 65, 3) := by decide +kernel
theorem d_M_write_89 : decode prog_9_method_24_code 89 = .ok (.iload 5, 2) := by decide +kernel
theorem d_M_write_91 : decode prog_9_method_24_code 91 = .ok (.iaload, 1) := by decide +kernel
theorem d_M_write_92 : decode prog_9_method_24_code 92 = .ok (.iconst 4, 1) := by decide +kernel
theorem d_M_write_93 : decode prog_9_method_24_code 93 = .ok (.if_icmp .ne 6, 3) := by decide +kernel
theorem d_M_write_96 : decode prog_9_method_24_code 96 = .ok (.bipush (-6), 2) := by decide +kernel
theorem d_M_write_98 : decode prog_9_method_24_code 98 = .ok (.ireturn, 1) := by decide +kernel
theorem d_M_write_99 : decode prog_9_method_24_code 99 = .ok (.aload_n 0, 1) := by decide +kernel
theorem d_M_write_100 : decode prog_9_method_24_code 100 = .ok (.getfield 62, 3) := by decide +kernel
theorem d_M_write_103 : decode prog_9_method_24_code 103 = .ok (.iconst 4, 1) := by decide +kernel
theorem d_M_write_104 : decode prog_9_method_24_code 104 = .ok (.iload 5, 2) := by decide +kernel
theorem d_M_write_106 : decode prog_9_method_24_code 106 = .ok (.imul, 1) := by decide +kernel
theorem d_M_write_107 : decode prog_9_method_24_code 107 = .ok (.aload_n 0, 1) := by decide +kernel
theorem d_M_write_108 : decode prog_9_method_24_code 108 = .ok (.getfield 65, 3) := by decide +kernel
theorem d_M_write_111 : decode prog_9_method_24_code 111 = .ok (.iload 5, 2) := by decide +kernel
theorem d_M_write_113 : decode prog_9_method_24_code 113 = .ok (.iaload, 1) := by decide +kernel
theorem d_M_write_114 : decode prog_9_method_24_code 114 = .ok (.iadd, 1) := by decide +kernel
theorem d_M_write_115 : decode prog_9_method_24_code 115 = .ok (.iload_n 3, 1) := by decide +kernel
theorem d_M_write_116 : decode prog_9_method_24_code 116 = .ok (.iastore, 1) := by decide +kernel
theorem d_M_write_117 : decode prog_9_method_24_code 117 = .ok (.aload_n 0, 1) := by decide +kernel
theorem d_M_write_118 : decode prog_9_method_24_code 118 = .ok (.getfield 65, 3) := by decide +kernel
theorem d_M_write_121 : decode prog_9_method_24_code 121 = .ok (.iload 5, 2) := by decide +kernel
theorem d_M_write_123 : decode prog_9_method_24_code 123 = .ok (.dup2, 1) := by decide +kernel
theorem d_M_write_124 : decode prog_9_method_24_code 124 = .ok (.iaload, 1) := by decide +kernel
theorem d_M_write_125 : decode prog_9_method_24_code 125 = .ok (.iconst 1, 1) := by decide +kernel
theorem d_M_write_126 : decode prog_9_method_24_code 126 = .ok (.iadd, 1) := by decide +kernel
theorem d_M_write_127 : decode prog_9_method_24_code 127 = .ok (.iastore, 1) := by decide +kernel
theorem d_M_write_128 : decode prog_9_method_24_code 128 = .ok (.iconst 1, 1) := by decide +kernel
theorem d_M_write_129 : decode prog_9_method_24_code 129 = .ok (.ireturn, 1) := by decide +kernel
theorem d_M_write_130 : decode prog_9_method_24_code 130 = .ok (.aload_n 0, 1) := by decide +kernel
theorem d_M_write_131 : decode prog_9_method_24_code 131 = .ok (.getfield 56, 3) := by decide +kernel
theorem d_M_write_134 : decode prog_9_method_24_code 134 = .ok (.iload 4, 2) := by decide +kernel
theorem d_M_write_136 : decode prog_9_method_24_code 136 = .ok (.iaload, 1) := by decide +kernel
theorem d_M_write_137 : decode prog_9_method_24_code 137 = .ok (.iconst 4, 1) := by decide +kernel
theorem d_M_write_138 : decode prog_9_method_24_code 138 = .ok (.iand, 1) := by decide +kernel
theorem d_M_write_139 : decode prog_9_method_24_code 139 = .ok (.ifCond .eq 13, 3) := by decide +kernel
theorem d_M_write_142 : decode prog_9_method_24_code 142 = .ok (.aload_n 0, 1) := by decide +kernel
theorem d_M_write_143 : decode prog_9_method_24_code 143 = .ok (.getfield 20, 3) := by decide +kernel
theorem d_M_write_146 : decode prog_9_method_24_code 146 = .ok (.iload 5, 2) := by decide +kernel
theorem d_M_write_148 : decode prog_9_method_24_code 148 = .ok (.iaload, 1) := by decide +kernel
theorem d_M_write_149 : decode prog_9_method_24_code 149 = .ok (.goto 10, 3) := by decide +kernel
theorem d_M_write_152 : decode prog_9_method_24_code 152 = .ok (.aload_n 0, 1) := by decide +kernel
theorem d_M_write_153 : decode prog_9_method_24_code 153 = .ok (.getfield 59, 3) := by decide +kernel
theorem d_M_write_156 : decode prog_9_method_24_code 156 = .ok (.iload 4, 2) := by decide +kernel
theorem d_M_write_158 : decode prog_9_method_24_code 158 = .ok (.iaload, 1) := by decide +kernel
theorem d_M_write_159 : decode prog_9_method_24_code 159 = .ok (.istore 6, 2) := by decide +kernel
theorem d_M_write_161 : decode prog_9_method_24_code 161 = .ok (.iload 6, 2) := by decide +kernel
theorem d_M_write_163 : decode prog_9_method_24_code 163 = .ok (.bipush 32, 2) := by decide +kernel
theorem d_M_write_165 : decode prog_9_method_24_code 165 = .ok (.if_icmp .ne 6, 3) := by decide +kernel
theorem d_M_write_168 : decode prog_9_method_24_code 168 = .ok (.bipush (-2), 2) := by decide +kernel
theorem d_M_write_170 : decode prog_9_method_24_code 170 = .ok (.ireturn, 1) := by decide +kernel
theorem d_M_write_171 : decode prog_9_method_24_code 171 = .ok (.aload_n 0, 1) := by decide +kernel
theorem d_M_write_172 : decode prog_9_method_24_code 172 = .ok (.iload 5, 2) := by decide +kernel
theorem d_M_write_174 : decode prog_9_method_24_code 174 = .ok (.iload 6, 2) := by decide +kernel
theorem d_M_write_176 : decode prog_9_method_24_code 176 = .ok (.bipush 8, 2) := by decide +kernel
theorem d_M_write_178 : decode prog_9_method_24_code 178 = .ok (.idiv, 1) := by decide +kernel
theorem d_M_write_179 : decode prog_9_method_24_code 179 = .ok (.invokevirtual 133, 3) := by decide +kernel
theorem d_M_write_182 : decode prog_9_method_24_code 182 = .ok (.ifCond .ne 6, 3) := by decide +kernel
theorem d_M_write_185 : decode prog_9_method_24_code 185 = .ok (.bipush (-8), 2) := by decide +kernel
theorem d_M_write_187 : decode prog_9_method_24_code 187 = .ok (.ireturn, 1) := by decide +kernel
theorem d_M_write_188 : decode prog_9_method_24_code 188 = .ok (.aload_n 0, 1) := by decide +kernel
theorem d_M_write_189 : decode prog_9_method_24_code 189 = .ok (.getfield 29, 3) := by decide +kernel
theorem d_M_write_192 : decode prog_9_method_24_code 192 = .ok (.iconst 0, 1) := by decide +kernel
theorem d_M_write_193 : decode prog_9_method_24_code 193 = .ok (.iconst 1, 1) := by decide +kernel
theorem d_M_write_194 : decode prog_9_method_24_code 194 = .ok (.bastore, 1) := by decide +kernel
theorem d_M_write_195 : decode prog_9_method_24_code 195 = .ok (.aload_n 0, 1) := by decide +kernel
theorem d_M_write_196 : decode prog_9_method_24_code 196 = .ok (.getfield 32, 3) := by decide +kernel
theorem d_M_write_199 : decode prog_9_method_24_code 199 = .ok (.iload 6, 2) := by decide +kernel
theorem d_M_write_201 : decode prog_9_method_24_code 201 = .ok (.bipush 8, 2) := by decide +kernel
theorem d_M_write_203 : decode prog_9_method_24_code 203 = .ok (.irem, 1) := by decide +kernel
theorem d_M_write_204 : decode prog_9_method_24_code 204 = .ok (.iload_n 3, 1) := by decide +kernel
theorem d_M_write_205 : decode prog_9_method_24_code 205 = .ok (.iastore, 1) := by decide +kernel
theorem d_M_write_206 : decode prog_9_method_24_code 206 = .ok (.aload_n 0, 1) := by decide +kernel
theorem d_M_write_207 : decode prog_9_method_24_code 207 = .ok (.getfield 20, 3) := by decide +kernel
theorem d_M_write_210 : decode prog_9_method_24_code 210 = .ok (.iload 5, 2) := by decide +kernel
theorem d_M_write_212 : decode prog_9_method_24_code 212 = .ok (.iaload, 1) := by decide +kernel
theorem d_M_write_213 : decode prog_9_method_24_code 213 = .ok (.iload 6, 2) := by decide +kernel
theorem d_M_write_215 : decode prog_9_method_24_code 215 = .ok (.if_icmp .gt 14, 3) := by decide +kernel
theorem d_M_write_218 : decode prog_9_method_24_code 218 = .ok (.aload_n 0, 1) := by decide +kernel
theorem d_M_write_219 : decode prog_9_method_24_code 219 = .ok (.getfield 20, 3) := by decide +kernel
theorem d_M_write_222 : decode prog_9_method_24_code 222 = .ok (.iload 5, 2) := by decide +kernel
theorem d_M_write_224 : decode prog_9_method_24_code 224 = .ok (.iload 6, 2) := by decide +kernel
theorem d_M_write_226 : decode prog_9_method_24_code 226 = .ok (.iconst 1, 1) := by decide +kernel
theorem d_M_write_227 : decode prog_9_method_24_code 227 = .ok (.iadd, 1) := by decide +kernel
theorem d_M_write_228 : decode prog_9_method_24_code 228 = .ok (.iastore, 1) := by decide +kernel
theorem d_M_write_229 : decode prog_9_method_24_code 229 = .ok (.aload_n 0, 1) := by decide +kernel
theorem d_M_write_230 : decode prog_9_method_24_code 230 = .ok (.getfield 59, 3) := by decide +kernel
theorem d_M_write_233 : decode prog_9_method_24_code 233 = .ok (.iload 4, 2) := by decide +kernel
theorem d_M_write_235 : decode prog_9_method_24_code 235 = .ok (.iload 6, 2) := by decide +kernel
theorem d_M_write_237 : decode prog_9_method_24_code 237 = .ok (.iconst 1, 1) := by decide +kernel
theorem d_M_write_238 : decode prog_9_method_24_code 238 = .ok (.iadd, 1) := by decide +kernel
theorem d_M_write_239 : decode prog_9_method_24_code 239 = .ok (.iastore, 1) := by decide +kernel
theorem d_M_write_240 : decode prog_9_method_24_code 240 = .ok (.iconst 1, 1) := by decide +kernel
theorem d_M_write_241 : decode prog_9_method_24_code 241 = .ok (.ireturn, 1) := by decide +kernel
theorem d_M_seek_0 : decode prog_9_method_25_code 0 = .ok (.aload_n 0, 1) := by decide +kernel
theorem d_M_seek_1 : decode prog_9_method_25_code 1 = .ok (.iload_n 1, 1) := by decide +kernel
theorem d_M_seek_2 : decode prog_9_method_25_code 2 = .ok (.invokevirtual 86, 3) := by decide +kernel
theorem d_M_seek_5 : decode prog_9_method_25_code 5 = .ok (.ifCond .eq 15, 3) := by decide +kernel
theorem d_M_seek_8 : decode prog_9_method_25_code 8 = .ok (.iload_n 3, 1) := by decide +kernel
theorem d_M_seek_9 : decode prog_9_method_25_code 9 = .ok (.iconst 0, 1) := by decide +kernel
theorem d_M_seek_10 : decode prog_9_method_25_code 10 = .ok (.bipush 32, 2) := by decide +kernel
theorem d_M_seek_12 : decode prog_9_method_25_code 12 = .ok (.invokestatic 78, 3) := by decide +kernel
theorem d_M_seek_15 : decode prog_9_method_25_code 15 = .ok (.ifCond .ne 5, 3) := by decide +kernel
theorem d_M_seek_18 : decode prog_9_method_25_code 18 = .ok (.iconst (-1), 1) := by decide +kernel
theorem d_M_seek_19 : decode prog_9_method_25_code 19 = .ok (.ireturn, 1) := by decide +kernel
theorem d_M_seek_20 : decode prog_9_method_25_code 20 = .ok (.aload_n 0, 1) := by decide +kernel
theorem d_M_seek_21 : decode prog_9_method_25_code 21 = .ok (.iload_n 1, 1) := by decide +kernel
end
section
/-! decode rows, by program -/
theorem d_M_seek_22 : decode prog_9_method_25_code 22 = .ok (.iload_n 2, 1) := by decide +kernel
theorem d_M_seek_23 : decode prog_9_method_25_code 23 = .ok (.invokevirtual 130, 3) := by decide +kernel
theorem d_M_seek_26 : decode prog_9_method_25_code 26 = .ok (.istore 4, 2) := by decide +kernel
theorem d_M_seek_28 : decode prog_9_method_25_code 28 = .ok (.iload 4, 2) := by decide +kernel
theorem d_M_seek_30 : decode prog_9_method_25_code 30 = .ok (.ifCond .ge 6, 3) := by decide +kernel
theorem d_M_seek_33 : decode prog_9_method_25_code 33 = .ok (.iload 4, 2) := by decide +kernel
theorem d_M_seek_35 : decode prog_9_method_25_code 35 = .ok (.ireturn, 1) := by decide +kernel
theorem d_M_seek_36 : decode prog_9_method_25_code 36 = .ok (.aload_n 0, 1) := by decide +kernel
theorem d_M_seek_37 : decode prog_9_method_25_code 37 = .ok (.getfield 50, 3) := by decide +kernel
theorem d_M_seek_40 : decode prog_9_method_25_code 40 = .ok (.iload 4, 2) := by decide +kernel
theorem d_M_seek_42 : decode prog_9_method_25_code 42 = .ok (.iaload, 1) := by decide +kernel
theorem d_M_seek_43 : decode prog_9_method_25_code 43 = .ok (.ifCond .eq 6, 3) := by decide +kernel
theorem d_M_seek_46 : decode prog_9_method_25_code 46 = .ok (.bipush (-3), 2) := by decide +kernel
theorem d_M_seek_48 : decode prog_9_method_25_code 48 = .ok (.ireturn, 1) := by decide +kernel
theorem d_M_seek_49 : decode prog_9_method_25_code 49 = .ok (.iload_n 3, 1) := by decide +kernel
theorem d_M_seek_50 : decode prog_9_method_25_code 50 = .ok (.aload_n 0, 1) := by decide +kernel
theorem d_M_seek_51 : decode prog_9_method_25_code 51 = .ok (.getfield 20, 3) := by decide +kernel
theorem d_M_seek_54 : decode prog_9_method_25_code 54 = .ok (.aload_n 0, 1) := by decide +kernel
theorem d_M_seek_55 : decode prog_9_method_25_code 55 = .ok (.getfield 53, 3) := by decide +kernel
theorem d_M_seek_58 : decode prog_9_method_25_code 58 = .ok (.iload 4, 2) := by decide +kernel
theorem d_M_seek_60 : decode prog_9_method_25_code 60 = .ok (.iaload, 1) := by decide +kernel
theorem d_M_seek_61 : decode prog_9_method_25_code 61 = .ok (.iaload, 1) := by decide +kernel
theorem d_M_seek_62 : decode prog_9_method_25_code 62 = .ok (.if_icmp .le 5, 3) := by decide +kernel
theorem d_M_seek_65 : decode prog_9_method_25_code 65 = .ok (.iconst (-1), 1) := by decide +kernel
theorem d_M_seek_66 : decode prog_9_method_25_code 66 = .ok (.ireturn, 1) := by decide +kernel
theorem d_M_seek_67 : decode prog_9_method_25_code 67 = .ok (.aload_n 0, 1) := by decide +kernel
theorem d_M_seek_68 : decode prog_9_method_25_code 68 = .ok (.getfield 59, 3) := by decide +kernel
theorem d_M_seek_71 : decode prog_9_method_25_code 71 = .ok (.iload 4, 2) := by decide +kernel
theorem d_M_seek_73 : decode prog_9_method_25_code 73 = .ok (.iload_n 3, 1) := by decide +kernel
theorem d_M_seek_74 : decode prog_9_method_25_code 74 = .ok (.iastore, 1) := by decide +kernel
theorem d_M_seek_75 : decode prog_9_method_25_code 75 = .ok (.iload_n 3, 1) := by decide +kernel
theorem d_M_seek_76 : decode prog_9_method_25_code 76 = .ok (.ireturn, 1) := by decide +kernel
theorem d_M_sync_0 : decode prog_9_method_26_code 0 = .ok (.aload_n 0, 1) := by decide +kernel
theorem d_M_sync_1 : decode prog_9_method_26_code 1 = .ok (.iload_n 1, 1) := by decide +kernel
theorem d_M_sync_2 : decode prog_9_method_26_code 2 = .ok (.iload_n 2, 1) := by decide +kernel
theorem d_M_sync_3 : decode prog_9_method_26_code 3 = .ok (.invokevirtual 130, 3) := by decide +kernel
theorem d_M_sync_6 : decode prog_9_method_26_code 6 = .ok (.istore_n 3, 1) := by decide +kernel
theorem d_M_sync_7 : decode prog_9_method_26_code 7 = .ok (.iload_n 3, 1) := by decide +kernel
theorem d_M_sync_8 : decode prog_9_method_26_code 8 = .ok (.ifCond .ge 5, 3) := by decide +kernel
theorem d_M_sync_11 : decode prog_9_method_26_code 11 = .ok (.iload_n 3, 1) := by decide +kernel
theorem d_M_sync_12 : decode prog_9_method_26_code 12 = .ok (.ireturn, 1) := by decide +kernel
theorem d_M_sync_13 : decode prog_9_method_26_code 13 = .ok (.aload_n 0, 1) := by decide +kernel
theorem d_M_sync_14 : decode prog_9_method_26_code 14 = .ok (.getfield 50, 3) := by decide +kernel
theorem d_M_sync_17 : decode prog_9_method_26_code 17 = .ok (.iload_n 3, 1) := by decide +kernel
theorem d_M_sync_18 : decode prog_9_method_26_code 18 = .ok (.iaload, 1) := by decide +kernel
theorem d_M_sync_19 : decode prog_9_method_26_code 19 = .ok (.ifCond .eq 6, 3) := by decide +kernel
theorem d_M_sync_22 : decode prog_9_method_26_code 22 = .ok (.bipush (-3), 2) := by decide +kernel
theorem d_M_sync_24 : decode prog_9_method_26_code 24 = .ok (.ireturn, 1) := by decide +kernel
theorem d_M_sync_25 : decode prog_9_method_26_code 25 = .ok (.iconst 0, 1) := by decide +kernel
theorem d_M_sync_26 : decode prog_9_method_26_code 26 = .ok (.istore 4, 2) := by decide +kernel
theorem d_M_sync_28 : decode prog_9_method_26_code 28 = .ok (.iconst 0, 1) := by decide +kernel
theorem d_M_sync_29 : decode prog_9_method_26_code 29 = .ok (.istore 5, 2) := by decide +kernel
theorem d_M_sync_31 : decode prog_9_method_26_code 31 = .ok (.iload 5, 2) := by decide +kernel
theorem d_M_sync_33 : decode prog_9_method_26_code 33 = .ok (.iconst 4, 1) := by decide +kernel
theorem d_M_sync_34 : decode prog_9_method_26_code 34 = .ok (.if_icmp .ge 77, 3) := by decide +kernel
theorem d_M_sync_37 : decode prog_9_method_26_code 37 = .ok (.iconst 0, 1) := by decide +kernel
theorem d_M_sync_38 : decode prog_9_method_26_code 38 = .ok (.istore 6, 2) := by decide +kernel
theorem d_M_sync_40 : decode prog_9_method_26_code 40 = .ok (.iload 6, 2) := by decide +kernel
theorem d_M_sync_42 : decode prog_9_method_26_code 42 = .ok (.aload_n 0, 1) := by decide +kernel
theorem d_M_sync_43 : decode prog_9_method_26_code 43 = .ok (.getfield 74, 3) := by decide +kernel
theorem d_M_sync_46 : decode prog_9_method_26_code 46 = .ok (.if_icmp .ge 59, 3) := by decide +kernel
theorem d_M_sync_49 : decode prog_9_method_26_code 49 = .ok (.aload_n 0, 1) := by decide +kernel
theorem d_M_sync_50 : decode prog_9_method_26_code 50 = .ok (.getfield 26, 3) := by decide +kernel
theorem d_M_sync_53 : decode prog_9_method_26_code 53 = .ok (.iload 6, 2) := by decide +kernel
theorem d_M_sync_55 : decode prog_9_method_26_code 55 = .ok (.iaload, 1) := by decide +kernel
theorem d_M_sync_56 : decode prog_9_method_26_code 56 = .ok (.aload_n 0, 1) := by decide +kernel
theorem d_M_sync_57 : decode prog_9_method_26_code 57 = .ok (.getfield 53, 3) := by decide +kernel
theorem d_M_sync_60 : decode prog_9_method_26_code 60 = .ok (.iload_n 3, 1) := by decide +kernel
theorem d_M_sync_61 : decode prog_9_method_26_code 61 = .ok (.iaload, 1) := by decide +kernel
theorem d_M_sync_62 : decode prog_9_method_26_code 62 = .ok (.bipush 8, 2) := by decide +kernel
theorem d_M_sync_64 : decode prog_9_method_26_code 64 = .ok (.iload 5, 2) := by decide +kernel
theorem d_M_sync_66 : decode prog_9_method_26_code 66 = .ok (.imul, 1) := by decide +kernel
theorem d_M_sync_67 : decode prog_9_method_26_code 67 = .ok (.iadd, 1) := by decide +kernel
theorem d_M_sync_68 : decode prog_9_method_26_code 68 = .ok (.if_icmp .ne 31, 3) := by decide +kernel
theorem d_M_sync_71 : decode prog_9_method_26_code 71 = .ok (.aload_n 0, 1) := by decide +kernel
theorem d_M_sync_72 : decode prog_9_method_26_code 72 = .ok (.getfield 29, 3) := by decide +kernel
theorem d_M_sync_75 : decode prog_9_method_26_code 75 = .ok (.iload 6, 2) := by decide +kernel
theorem d_M_sync_77 : decode prog_9_method_26_code 77 = .ok (.baload, 1) := by decide +kernel
theorem d_M_sync_78 : decode prog_9_method_26_code 78 = .ok (.ifCond .ne 6, 3) := by decide +kernel
theorem d_M_sync_81 : decode prog_9_method_26_code 81 = .ok (.goto 18, 3) := by decide +kernel
theorem d_M_sync_84 : decode prog_9_method_26_code 84 = .ok (.aload_n 0, 1) := by decide +kernel
theorem d_M_sync_85 : decode prog_9_method_26_code 85 = .ok (.iload 6, 2) := by decide +kernel
theorem d_M_sync_87 : decode prog_9_method_26_code 87 = .ok (.invokevirtual 102, 3) := by decide +kernel
theorem d_M_sync_90 : decode prog_9_method_26_code 90 = .ok (.ifCond .ne 6, 3) := by decide +kernel
theorem d_M_sync_93 : decode prog_9_method_26_code 93 = .ok (.bipush (-8), 2) := by decide +kernel
theorem d_M_sync_95 : decode prog_9_method_26_code 95 = .ok (.ireturn, 1) := by decide +kernel
theorem d_M_sync_96 : decode prog_9_method_26_code 96 = .ok (.iinc 4 1, 3) := by decide +kernel
theorem d_M_sync_99 : decode prog_9_method_26_code 99 = .ok (.iinc 6 1, 3) := by decide +kernel
theorem d_M_sync_102 : decode prog_9_method_26_code 102 = .ok (.goto (-62), 3) := by decide +kernel
theorem d_M_sync_105 : decode prog_9_method_26_code 105 = .ok (.iinc 5 1, 3) := by decide +kernel
theorem d_M_sync_108 : decode prog_9_method_26_code 108 = .ok (.goto (-77), 3) := by decide +kernel
theorem d_M_sync_111 : decode prog_9_method_26_code 111 = .ok (.iload 4, 2) := by decide +kernel
theorem d_M_sync_113 : decode prog_9_method_26_code 113 = .ok (.ireturn, 1) := by decide +kernel
theorem d_M_dup_0 : decode prog_9_method_27_code 0 = .ok (.aload_n 0, 1) := by decide +kernel
theorem d_M_dup_1 : decode prog_9_method_27_code 1 = .ok (.iload_n 1, 1) := by decide +kernel
theorem d_M_dup_2 : decode prog_9_method_27_code 2 = .ok (.iload_n 2, 1) := by decide +kernel
theorem d_M_dup_3 : decode prog_9_method_27_code 3 = .ok (.invokevirtual 130, 3) := by decide +kernel
theorem d_M_dup_6 : decode prog_9_method_27_code 6 = .ok (.istore_n 3, 1) := by decide +kernel
theorem d_M_dup_7 : decode prog_9_method_27_code 7 = .ok (.iload_n 3, 1) := by decide +kernel
theorem d_M_dup_8 : decode prog_9_method_27_code 8 = .ok (.ifCond .ge 5, 3) := by decide +kernel
theorem d_M_dup_11 : decode prog_9_method_27_code 11 = .ok (.iload_n 3, 1) := by decide +kernel
theorem d_M_dup_12 : decode prog_9_method_27_code 12 = .ok (.ireturn, 1) := by decide +kernel
theorem d_M_dup_13 : decode prog_9_method_27_code 13 = .ok (.aload_n 0, 1) := by decide +kernel
theorem d_M_dup_14 : decode prog_9_method_27_code 14 = .ok (.iload_n 1, 1) := by decide +kernel
theorem d_M_dup_15 : decode prog_9_method_27_code 15 = .ok (.iconst 0, 1) := by decide +kernel
theorem d_M_dup_16 : decode prog_9_method_27_code 16 = .ok (.invokevirtual 111, 3) := by decide +kernel
theorem d_M_dup_19 : decode prog_9_method_27_code 19 = .ok (.istore 4, 2) := by decide +kernel
theorem d_M_dup_21 : decode prog_9_method_27_code 21 = .ok (.iload 4, 2) := by decide +kernel
theorem d_M_dup_23 : decode prog_9_method_27_code 23 = .ok (.ifCond .ge 6, 3) := by decide +kernel
theorem d_M_dup_26 : decode prog_9_method_27_code 26 = .ok (.bipush (-2), 2) := by decide +kernel
theorem d_M_dup_28 : decode prog_9_method_27_code 28 = .ok (.ireturn, 1) := by decide +kernel
theorem d_M_dup_29 : decode prog_9_method_27_code 29 = .ok (.aload_n 0, 1) := by decide +kernel
theorem d_M_dup_30 : decode prog_9_method_27_code 30 = .ok (.getfield 47, 3) := by decide +kernel
theorem d_M_dup_33 : decode prog_9_method_27_code 33 = .ok (.bipush 6, 2) := by decide +kernel
theorem d_M_dup_35 : decode prog_9_method_27_code 35 = .ok (.iload_n 1, 1) := by decide +kernel
theorem d_M_dup_36 : decode prog_9_method_27_code 36 = .ok (.imul, 1) := by decide +kernel
theorem d_M_dup_37 : decode prog_9_method_27_code 37 = .ok (.iload 4, 2) := by decide +kernel
theorem d_M_dup_39 : decode prog_9_method_27_code 39 = .ok (.iadd, 1) := by decide +kernel
theorem d_M_dup_40 : decode prog_9_method_27_code 40 = .ok (.iload_n 3, 1) := by decide +kernel
theorem d_M_dup_41 : decode prog_9_method_27_code 41 = .ok (.iastore, 1) := by decide +kernel
theorem d_M_dup_42 : decode prog_9_method_27_code 42 = .ok (.iload 4, 2) := by decide +kernel
theorem d_M_dup_44 : decode prog_9_method_27_code 44 = .ok (.ireturn, 1) := by decide +kernel
theorem d_M_close_0 : decode prog_9_method_28_code 0 = .ok (.aload_n 0, 1) := by decide +kernel
theorem d_M_close_1 : decode prog_9_method_28_code 1 = .ok (.iload_n 1, 1) := by decide +kernel
theorem d_M_close_2 : decode prog_9_method_28_code 2 = .ok (.iload_n 2, 1) := by decide +kernel
theorem d_M_close_3 : decode prog_9_method_28_code 3 = .ok (.invokevirtual 130, 3) := by decide +kernel
theorem d_M_close_6 : decode prog_9_method_28_code 6 = .ok (.istore_n 3, 1) := by decide +kernel
theorem d_M_close_7 : decode prog_9_method_28_code 7 = .ok (.iload_n 3, 1) := by decide +kernel
theorem d_M_close_8 : decode prog_9_method_28_code 8 = .ok (.ifCond .ge 5, 3) := by decide +kernel
theorem d_M_close_11 : decode prog_9_method_28_code 11 = .ok (.iload_n 3, 1) := by decide +kernel
theorem d_M_close_12 : decode prog_9_method_28_code 12 = .ok (.ireturn, 1) := by decide +kernel
theorem d_M_close_13 : decode prog_9_method_28_code 13 = .ok (.aload_n 0, 1) := by decide +kernel
theorem d_M_close_14 : decode prog_9_method_28_code 14 = .ok (.getfield 47, 3) := by decide +kernel
theorem d_M_close_17 : decode prog_9_method_28_code 17 = .ok (.bipush 6, 2) := by decide +kernel
theorem d_M_close_19 : decode prog_9_method_28_code 19 = .ok (.iload_n 1, 1) := by decide +kernel
theorem d_M_close_20 : decode prog_9_method_28_code 20 = .ok (.imul, 1) := by decide +kernel
theorem d_M_close_21 : decode prog_9_method_28_code 21 = .ok (.iload_n 2, 1) := by decide +kernel
theorem d_M_close_22 : decode prog_9_method_28_code 22 = .ok (.iadd, 1) := by decide +kernel
theorem d_M_close_23 : decode prog_9_method_28_code 23 = .ok (.iconst (-1), 1) := by decide +kernel
theorem d_M_close_24 : decode prog_9_method_28_code 24 = .ok (.iastore, 1) := by decide +kernel
theorem d_M_close_25 : decode prog_9_method_28_code 25 = .ok (.iconst 0, 1) := by decide +kernel
theorem d_M_close_26 : decode prog_9_method_28_code 26 = .ok (.ireturn, 1) := by decide +kernel
theorem d_M_unlink_0 : decode prog_9_method_29_code 0 = .ok (.aload_n 0, 1) := by decide +kernel
theorem d_M_unlink_1 : decode prog_9_method_29_code 1 = .ok (.iload_n 1, 1) := by decide +kernel
theorem d_M_unlink_2 : decode prog_9_method_29_code 2 = .ok (.invokevirtual 86, 3) := by decide +kernel
theorem d_M_unlink_5 : decode prog_9_method_29_code 5 = .ok (.ifCond .eq 13, 3) := by decide +kernel
theorem d_M_unlink_8 : decode prog_9_method_29_code 8 = .ok (.iload_n 2, 1) := by decide +kernel
theorem d_M_unlink_9 : decode prog_9_method_29_code 9 = .ok (.iconst 0, 1) := by decide +kernel
theorem d_M_unlink_10 : decode prog_9_method_29_code 10 = .ok (.bipush 7, 2) := by decide +kernel
theorem d_M_unlink_12 : decode prog_9_method_29_code 12 = .ok (.invokestatic 78, 3) := by decide +kernel
theorem d_M_unlink_15 : decode prog_9_method_29_code 15 = .ok (.ifCond .ne 5, 3) := by decide +kernel
theorem d_M_unlink_18 : decode prog_9_method_29_code 18 = .ok (.iconst (-1), 1) := by decide +kernel
theorem d_M_unlink_19 : decode prog_9_method_29_code 19 = .ok (.ireturn, 1) := by decide +kernel
theorem d_M_unlink_20 : decode prog_9_method_29_code 20 = .ok (.aload_n 0, 1) := by decide +kernel
theorem d_M_unlink_21 : decode prog_9_method_29_code 21 = .ok (.getfield 23, 3) := by decide +kernel
theorem d_M_unlink_24 : decode prog_9_method_29_code 24 = .ok (.iload_n 2, 1) := by decide +kernel
theorem d_M_unlink_25 : decode prog_9_method_29_code 25 = .ok (.iaload, 1) := by decide +kernel
theorem d_M_unlink_26 : decode prog_9_method_29_code 26 = .ok (.ifCond .eq 12, 3) := by decide +kernel
theorem d_M_unlink_29 : decode prog_9_method_29_code 29 = .ok (.aload_n 0, 1) := by decide +kernel
theorem d_M_unlink_30 : decode prog_9_method_29_code 30 = .ok (.getfield 7, 3) := by decide +kernel
theorem d_M_unlink_33 : decode prog_9_method_29_code 33 = .ok (.iload_n 2, 1) := by decide +kernel
theorem d_M_unlink_34 : decode prog_9_method_29_code 34 = .ok (.baload, 1) := by decide +kernel
theorem d_M_unlink_35 : decode prog_9_method_29_code 35 = .ok (.ifCond .ne 6, 3) := by decide +kernel
theorem d_M_unlink_38 : decode prog_9_method_29_code 38 = .ok (.bipush (-4), 2) := by decide +kernel
theorem d_M_unlink_40 : decode prog_9_method_29_code 40 = .ok (.ireturn, 1) := by decide +kernel
theorem d_M_unlink_41 : decode prog_9_method_29_code 41 = .ok (.aload_n 0, 1) := by decide +kernel
theorem d_M_unlink_42 : decode prog_9_method_29_code 42 = .ok (.getfield 23, 3) := by decide +kernel
theorem d_M_unlink_45 : decode prog_9_method_29_code 45 = .ok (.iload_n 2, 1) := by decide +kernel
theorem d_M_unlink_46 : decode prog_9_method_29_code 46 = .ok (.iaload, 1) := by decide +kernel
theorem d_M_unlink_47 : decode prog_9_method_29_code 47 = .ok (.iconst 1, 1) := by decide +kernel
theorem d_M_unlink_48 : decode prog_9_method_29_code 48 = .ok (.if_icmp .ne 6, 3) := by decide +kernel
theorem d_M_unlink_51 : decode prog_9_method_29_code 51 = .ok (.bipush (-5), 2) := by decide +kernel
theorem d_M_unlink_53 : decode prog_9_method_29_code 53 = .ok (.ireturn, 1) := by decide +kernel
theorem d_M_unlink_54 : decode prog_9_method_29_code 54 = .ok (.aload_n 0, 1) := by decide +kernel
theorem d_M_unlink_55 : decode prog_9_method_29_code 55 = .ok (.iload_n 2, 1) := by decide +kernel
theorem d_M_unlink_56 : decode prog_9_method_29_code 56 = .ok (.invokevirtual 105, 3) := by decide +kernel
theorem d_M_unlink_59 : decode prog_9_method_29_code 59 = .ok (.ifCond .eq 6, 3) := by decide +kernel
theorem d_M_unlink_62 : decode prog_9_method_29_code 62 = .ok (.bipush (-9), 2) := by decide +kernel
theorem d_M_unlink_64 : decode prog_9_method_29_code 64 = .ok (.ireturn, 1) := by decide +kernel
theorem d_M_unlink_65 : decode prog_9_method_29_code 65 = .ok (.aload_n 0, 1) := by decide +kernel
theorem d_M_unlink_66 : decode prog_9_method_29_code 66 = .ok (.iconst 4, 1) := by decide +kernel
theorem d_M_unlink_67 : decode prog_9_method_29_code 67 = .ok (.iload_n 2, 1) := by decide +kernel
theorem d_M_unlink_68 : decode prog_9_method_29_code 68 = .ok (.iconst 0, 1) := by decide +kernel
theorem d_M_unlink_69 : decode prog_9_method_29_code 69 = .ok (.invokevirtual 95, 3) := by decide +kernel
theorem d_M_unlink_72 : decode prog_9_method_29_code 72 = .ok (.ifCond .ne 6, 3) := by decide +kernel
theorem d_M_unlink_75 : decode prog_9_method_29_code 75 = .ok (.bipush (-8), 2) := by decide +kernel
theorem d_M_unlink_77 : decode prog_9_method_29_code 77 = .ok (.ireturn, 1) := by decide +kernel
theorem d_M_unlink_78 : decode prog_9_method_29_code 78 = .ok (.aload_n 0, 1) := by decide +kernel
theorem d_M_unlink_79 : decode prog_9_method_29_code 79 = .ok (.getfield 7, 3) := by decide +kernel
theorem d_M_unlink_82 : decode prog_9_method_29_code 82 = .ok (.iload_n 2, 1) := by decide +kernel
theorem d_M_unlink_83 : decode prog_9_method_29_code 83 = .ok (.iconst 0, 1) := by decide +kernel
theorem d_M_unlink_84 : decode prog_9_method_29_code 84 = .ok (.bastore, 1) := by decide +kernel
theorem d_M_unlink_85 : decode prog_9_method_29_code 85 = .ok (.aload_n 0, 1) := by decide +kernel
theorem d_M_unlink_86 : decode prog_9_method_29_code 86 = .ok (.iload_n 2, 1) := by decide +kernel
theorem d_M_unlink_87 : decode prog_9_method_29_code 87 = .ok (.invokevirtual 119, 3) := by decide +kernel
theorem d_M_unlink_90 : decode prog_9_method_29_code 90 = .ok (.iconst 0, 1) := by decide +kernel
theorem d_M_unlink_91 : decode prog_9_method_29_code 91 = .ok (.ireturn, 1) := by decide +kernel
theorem d_M_fork_0 : decode prog_9_method_30_code 0 = .ok (.aload_n 0, 1) := by decide +kernel
theorem d_M_fork_1 : decode prog_9_method_30_code 1 = .ok (.iload_n 1, 1) := by decide +kernel
theorem d_M_fork_2 : decode prog_9_method_30_code 2 = .ok (.invokevirtual 86, 3) := by decide +kernel
theorem d_M_fork_5 : decode prog_9_method_30_code 5 = .ok (.ifCond .ne 5, 3) := by decide +kernel
theorem d_M_fork_8 : decode prog_9_method_30_code 8 = .ok (.iconst (-1), 1) := by decide +kernel
theorem d_M_fork_9 : decode prog_9_method_30_code 9 = .ok (.ireturn, 1) := by decide +kernel
theorem d_M_fork_10 : decode prog_9_method_30_code 10 = .ok (.iconst 1, 1) := by decide +kernel
theorem d_M_fork_11 : decode prog_9_method_30_code 11 = .ok (.istore_n 2, 1) := by decide +kernel
theorem d_M_fork_12 : decode prog_9_method_30_code 12 = .ok (.iload_n 2, 1) := by decide +kernel
theorem d_M_fork_13 : decode prog_9_method_30_code 13 = .ok (.bipush 7, 2) := by decide +kernel
theorem d_M_fork_15 : decode prog_9_method_30_code 15 = .ok (.if_icmp .ge 18, 3) := by decide +kernel
theorem d_M_fork_18 : decode prog_9_method_30_code 18 = .ok (.aload_n 0, 1) := by decide +kernel
theorem d_M_fork_19 : decode prog_9_method_30_code 19 = .ok (.getfield 35, 3) := by decide +kernel
theorem d_M_fork_22 : decode prog_9_method_30_code 22 = .ok (.iload_n 2, 1) := by decide +kernel
theorem d_M_fork_23 : decode prog_9_method_30_code 23 = .ok (.baload, 1) := by decide +kernel
theorem d_M_fork_24 : decode prog_9_method_30_code 24 = .ok (.ifCond .eq 9, 3) := by decide +kernel
theorem d_M_fork_27 : decode prog_9_method_30_code 27 = .ok (.iinc 2 1, 3) := by decide +kernel
theorem d_M_fork_30 : decode prog_9_method_30_code 30 = .ok (.goto (-18), 3) := by decide +kernel
theorem d_M_fork_33 : decode prog_9_method_30_code 33 = .ok (.iload_n 2, 1) := by decide +kernel
theorem d_M_fork_34 : decode prog_9_method_30_code 34 = .ok (.bipush 7, 2) := by decide +kernel
theorem d_M_fork_36 : decode prog_9_method_30_code 36 = .ok (.if_icmp .ne 6, 3) := by decide +kernel
theorem d_M_fork_39 : decode prog_9_method_30_code 39 = .ok (.bipush (-2), 2) := by decide +kernel
theorem d_M_fork_41 : decode prog_9_method_30_code 41 = .ok (.ireturn, 1) := by decide +kernel
theorem d_M_fork_42 : decode prog_9_method_30_code 42 = .ok (.aload_n 0, 1) := by decide +kernel
theorem d_M_fork_43 : decode prog_9_method_30_code 43 = .ok (.getfield 35, 3) := by decide +kernel
theorem d_M_fork_46 : decode prog_9_method_30_code 46 = .ok (.iload_n 2, 1) := by decide +kernel
theorem d_M_fork_47 : decode prog_9_method_30_code 47 = .ok (.iconst 1, 1) := by decide +kernel
theorem d_M_fork_48 : decode prog_9_method_30_code 48 = .ok (.bastore, 1) := by decide +kernel
theorem d_M_fork_49 : decode prog_9_method_30_code 49 = .ok (.aload_n 0, 1) := by decide +kernel
theorem d_M_fork_50 : decode prog_9_method_30_code 50 = .ok (.getfield 38, 3) := by decide +kernel
theorem d_M_fork_53 : decode prog_9_method_30_code 53 = .ok (.iload_n 2, 1) := by decide +kernel
theorem d_M_fork_54 : decode prog_9_method_30_code 54 = .ok (.iconst 0, 1) := by decide +kernel
theorem d_M_fork_55 : decode prog_9_method_30_code 55 = .ok (.bastore, 1) := by decide +kernel
theorem d_M_fork_56 : decode prog_9_method_30_code 56 = .ok (.aload_n 0, 1) := by decide +kernel
theorem d_M_fork_57 : decode prog_9_method_30_code 57 = .ok (.getfield 41, 3) := by decide +kernel
theorem d_M_fork_60 : decode prog_9_method_30_code 60 = .ok (.iload_n 2, 1) := by decide +kernel
theorem d_M_fork_61 : decode prog_9_method_30_code 61 = .ok (.iload_n 1, 1) := by decide +kernel
theorem d_M_fork_62 : decode prog_9_method_30_code 62 = .ok (.iastore, 1) := by decide +kernel
theorem d_M_fork_63 : decode prog_9_method_30_code 63 = .ok (.iconst 0, 1) := by decide +kernel
theorem d_M_fork_64 : decode prog_9_method_30_code 64 = .ok (.istore_n 3, 1) := by decide +kernel
theorem d_M_fork_65 : decode prog_9_method_30_code 65 = .ok (.iload_n 3, 1) := by decide +kernel
theorem d_M_fork_66 : decode prog_9_method_30_code 66 = .ok (.bipush 6, 2) := by decide +kernel
theorem d_M_fork_68 : decode prog_9_method_30_code 68 = .ok (.if_icmp .ge 31, 3) := by decide +kernel
theorem d_M_fork_71 : decode prog_9_method_30_code 71 = .ok (.aload_n 0, 1) := by decide +kernel
theorem d_M_fork_72 : decode prog_9_method_30_code 72 = .ok (.getfield 47, 3) := by decide +kernel
theorem d_M_fork_75 : decode prog_9_method_30_code 75 = .ok (.bipush 6, 2) := by decide +kernel
theorem d_M_fork_77 : decode prog_9_method_30_code 77 = .ok (.iload_n 2, 1) := by decide +kernel
theorem d_M_fork_78 : decode prog_9_method_30_code 78 = .ok (.imul, 1) := by decide +kernel
theorem d_M_fork_79 : decode prog_9_method_30_code 79 = .ok (.iload_n 3, 1) := by decide +kernel
theorem d_M_fork_80 : decode prog_9_method_30_code 80 = .ok (.iadd, 1) := by decide +kernel
theorem d_M_fork_81 : decode prog_9_method_30_code 81 = .ok (.aload_n 0, 1) := by decide +kernel
theorem d_M_fork_82 : decode prog_9_method_30_code 82 = .ok (.getfield 47, 3) := by decide +kernel
theorem d_M_fork_85 : decode prog_9_method_30_code 85 = .ok (.bipush 6, 2) := by decide +kernel
theorem d_M_fork_87 : decode prog_9_method_30_code 87 = .ok (.iload_n 1, 1) := by decide +kernel
theorem d_M_fork_88 : decode prog_9_method_30_code 88 = .ok (.imul, 1) := by decide +kernel
theorem d_M_fork_89 : decode prog_9_method_30_code 89 = .ok (.iload_n 3, 1) := by decide +kernel
theorem d_M_fork_90 : decode prog_9_method_30_code 90 = .ok (.iadd, 1) := by decide +kernel
theorem d_M_fork_91 : decode prog_9_method_30_code 91 = .ok (.iaload, 1) := by decide +kernel
theorem d_M_fork_92 : decode prog_9_method_30_code 92 = .ok (.iastore, 1) := by decide +kernel
theorem d_M_fork_93 : decode prog_9_method_30_code 93 = .ok (.iinc 3 1, 3) := by decide +kernel
theorem d_M_fork_96 : decode prog_9_method_30_code 96 = .ok (.goto (-31), 3) := by decide +kernel
theorem d_M_fork_99 : decode prog_9_method_30_code 99 = .ok (.iload_n 2, 1) := by decide +kernel
theorem d_M_fork_100 : decode prog_9_method_30_code 100 = .ok (.ireturn, 1) := by decide +kernel
theorem d_M_exit_0 : decode prog_9_method_31_code 0 = .ok (.aload_n 0, 1) := by decide +kernel
theorem d_M_exit_1 : decode prog_9_method_31_code 1 = .ok (.iload_n 1, 1) := by decide +kernel
theorem d_M_exit_2 : decode prog_9_method_31_code 2 = .ok (.invokevirtual 86, 3) := by decide +kernel
theorem d_M_exit_5 : decode prog_9_method_31_code 5 = .ok (.ifCond .eq 18, 3) := by decide +kernel
theorem d_M_exit_8 : decode prog_9_method_31_code 8 = .ok (.iload_n 2, 1) := by decide +kernel
theorem d_M_exit_9 : decode prog_9_method_31_code 9 = .ok (.iconst 0, 1) := by decide +kernel
theorem d_M_exit_10 : decode prog_9_method_31_code 10 = .ok (.bipush 99, 2) := by decide +kernel
theorem d_M_exit_12 : decode prog_9_method_31_code 12 = .ok (.invokestatic 78, 3) := by decide +kernel
theorem d_M_exit_15 : decode prog_9_method_31_code 15 = .ok (.ifCond .eq 8, 3) := by decide +kernel
theorem d_M_exit_18 : decode prog_9_method_31_code 18 = .ok (.iload_n 1, 1) := by decide +kernel
theorem d_M_exit_19 : decode prog_9_method_31_code 19 = .ok (.iconst 1, 1) := by decide +kernel
theorem d_M_exit_20 : decode prog_9_method_31_code 20 = .ok (.if_icmp .ne 5, 3) := by decide +kernel
theorem d_M_exit_23 : decode prog_9_method_31_code 23 = .ok (.iconst (-1), 1) := by decide +kernel
theorem d_M_exit_24 : decode prog_9_method_31_code 24 = .ok (.ireturn, 1) := by decide +kernel
theorem d_M_exit_25 : decode prog_9_method_31_code 25 = .ok (.aload_n 0, 1) := by decide +kernel
theorem d_M_exit_26 : decode prog_9_method_31_code 26 = .ok (.getfield 38, 3) := by decide +kernel
theorem d_M_exit_29 : decode prog_9_method_31_code 29 = .ok (.iload_n 1, 1) := by decide +kernel
theorem d_M_exit_30 : decode prog_9_method_31_code 30 = .ok (.iconst 1, 1) := by decide +kernel
theorem d_M_exit_31 : decode prog_9_method_31_code 31 = .ok (.bastore, 1) := by decide +kernel
theorem d_M_exit_32 : decode prog_9_method_31_code 32 = .ok (.aload_n 0, 1) := by decide +kernel
theorem d_M_exit_33 : decode prog_9_method_31_code 33 = .ok (.getfield 44, 3) := by decide +kernel
theorem d_M_exit_36 : decode prog_9_method_31_code 36 = .ok (.iload_n 1, 1) := by decide +kernel
theorem d_M_exit_37 : decode prog_9_method_31_code 37 = .ok (.iload_n 2, 1) := by decide +kernel
theorem d_M_exit_38 : decode prog_9_method_31_code 38 = .ok (.iastore, 1) := by decide +kernel
theorem d_M_exit_39 : decode prog_9_method_31_code 39 = .ok (.iconst 0, 1) := by decide +kernel
theorem d_M_exit_40 : decode prog_9_method_31_code 40 = .ok (.istore_n 3, 1) := by decide +kernel
theorem d_M_exit_41 : decode prog_9_method_31_code 41 = .ok (.iload_n 3, 1) := by decide +kernel
theorem d_M_exit_42 : decode prog_9_method_31_code 42 = .ok (.bipush 6, 2) := by decide +kernel
theorem d_M_exit_44 : decode prog_9_method_31_code 44 = .ok (.if_icmp .ge 21, 3) := by decide +kernel
theorem d_M_exit_47 : decode prog_9_method_31_code 47 = .ok (.aload_n 0, 1) := by decide +kernel
theorem d_M_exit_48 : decode prog_9_method_31_code 48 = .ok (.getfield 47, 3) := by decide +kernel
theorem d_M_exit_51 : decode prog_9_method_31_code 51 = .ok (.bipush 6, 2) := by decide +kernel
theorem d_M_exit_53 : decode prog_9_method_31_code 53 = .ok (.iload_n 1, 1) := by decide +kernel
theorem d_M_exit_54 : decode prog_9_method_31_code 54 = .ok (.imul, 1) := by decide +kernel
theorem d_M_exit_55 : decode prog_9_method_31_code 55 = .ok (.iload_n 3, 1) := by decide +kernel
theorem d_M_exit_56 : decode prog_9_method_31_code 56 = .ok (.iadd, 1) := by decide +kernel
theorem d_M_exit_57 : decode prog_9_method_31_code 57 = .ok (.iconst (-1), 1) := by decide +kernel
theorem d_M_exit_58 : decode prog_9_method_31_code 58 = .ok (.iastore, 1) := by decide +kernel
theorem d_M_exit_59 : decode prog_9_method_31_code 59 = .ok (.iinc 3 1, 3) := by decide +kernel
theorem d_M_exit_62 : decode prog_9_method_31_code 62 = .ok (.goto (-21), 3) := by decide +kernel
theorem d_M_exit_65 : decode prog_9_method_31_code 65 = .ok (.iconst 2, 1) := by decide +kernel
theorem d_M_exit_66 : decode prog_9_method_31_code 66 = .ok (.istore_n 3, 1) := by decide +kernel
theorem d_M_exit_67 : decode prog_9_method_31_code 67 = .ok (.iload_n 3, 1) := by decide +kernel
theorem d_M_exit_68 : decode prog_9_method_31_code 68 = .ok (.bipush 7, 2) := by decide +kernel
theorem d_M_exit_70 : decode prog_9_method_31_code 70 = .ok (.if_icmp .ge 35, 3) := by decide +kernel
theorem d_M_exit_73 : decode prog_9_method_31_code 73 = .ok (.aload_n 0, 1) := by decide +kernel
theorem d_M_exit_74 : decode prog_9_method_31_code 74 = .ok (.getfield 35, 3) := by decide +kernel
theorem d_M_exit_77 : decode prog_9_method_31_code 77 = .ok (.iload_n 3, 1) := by decide +kernel
theorem d_M_exit_78 : decode prog_9_method_31_code 78 = .ok (.baload, 1) := by decide +kernel
theorem d_M_exit_79 : decode prog_9_method_31_code 79 = .ok (.ifCond .eq 20, 3) := by decide +kernel
theorem d_M_exit_82 : decode prog_9_method_31_code 82 = .ok (.aload_n 0, 1) := by decide +kernel
theorem d_M_exit_83 : decode prog_9_method_31_code 83 = .ok (.getfield 41, 3) := by decide +kernel
theorem d_M_exit_86 : decode prog_9_method_31_code 86 = .ok (.iload_n 3, 1) := by decide +kernel
theorem d_M_exit_87 : decode prog_9_method_31_code 87 = .ok (.iaload, 1) := by decide +kernel
theorem d_M_exit_88 : decode prog_9_method_31_code 88 = .ok (.iload_n 1, 1) := by decide +kernel
theorem d_M_exit_89 : decode prog_9_method_31_code 89 = .ok (.if_icmp .ne 10, 3) := by decide +kernel
theorem d_M_exit_92 : decode prog_9_method_31_code 92 = .ok (.aload_n 0, 1) := by decide +kernel
theorem d_M_exit_93 : decode prog_9_method_31_code 93 = .ok (.getfield 41, 3) := by decide +kernel
theorem d_M_exit_96 : decode prog_9_method_31_code 96 = .ok (.iload_n 3, 1) := by decide +kernel
theorem d_M_exit_97 : decode prog_9_method_31_code 97 = .ok (.iconst 1, 1) := by decide +kernel
theorem d_M_exit_98 : decode prog_9_method_31_code 98 = .ok (.iastore, 1) := by decide +kernel
theorem d_M_exit_99 : decode prog_9_method_31_code 99 = .ok (.iinc 3 1, 3) := by decide +kernel
theorem d_M_exit_102 : decode prog_9_method_31_code 102 = .ok (.goto (-35), 3) := by decide +kernel
theorem d_M_exit_105 : decode prog_9_method_31_code 105 = .ok (.iconst 0, 1) := by decide +kernel
theorem d_M_exit_106 : decode prog_9_method_31_code 106 = .ok (.ireturn, 1) := by decide +kernel
theorem d_M_wait_0 : decode prog_9_method_32_code 0 = .ok (.aload_n 0, 1) := by decide +kernel
theorem d_M_wait_1 : decode prog_9_method_32_code 1 = .ok (.iload_n 1, 1) := by decide +kernel
theorem d_M_wait_2 : decode prog_9_method_32_code 2 = .ok (.invokevirtual 86, 3) := by decide +kernel
theorem d_M_wait_5 : decode prog_9_method_32_code 5 = .ok (.ifCond .ne 5, 3) := by decide +kernel
theorem d_M_wait_8 : decode prog_9_method_32_code 8 = .ok (.iconst (-1), 1) := by decide +kernel
theorem d_M_wait_9 : decode prog_9_method_32_code 9 = .ok (.ireturn, 1) := by decide +kernel
theorem d_M_wait_10 : decode prog_9_method_32_code 10 = .ok (.iconst 0, 1) := by decide +kernel
theorem d_M_wait_11 : decode prog_9_method_32_code 11 = .ok (.istore_n 2, 1) := by decide +kernel
theorem d_M_wait_12 : decode prog_9_method_32_code 12 = .ok (.iconst 2, 1) := by decide +kernel
theorem d_M_wait_13 : decode prog_9_method_32_code 13 = .ok (.istore_n 3, 1) := by decide +kernel
theorem d_M_wait_14 : decode prog_9_method_32_code 14 = .ok (.iload_n 3, 1) := by decide +kernel
theorem d_M_wait_15 : decode prog_9_method_32_code 15 = .ok (.bipush 7, 2) := by decide +kernel
theorem d_M_wait_17 : decode prog_9_method_32_code 17 = .ok (.if_icmp .ge 61, 3) := by decide +kernel
theorem d_M_wait_20 : decode prog_9_method_32_code 20 = .ok (.aload_n 0, 1) := by decide +kernel
theorem d_M_wait_21 : decode prog_9_method_32_code 21 = .ok (.getfield 35, 3) := by decide +kernel
theorem d_M_wait_24 : decode prog_9_method_32_code 24 = .ok (.iload_n 3, 1) := by decide +kernel
theorem d_M_wait_25 : decode prog_9_method_32_code 25 = .ok (.baload, 1) := by decide +kernel
theorem d_M_wait_26 : decode prog_9_method_32_code 26 = .ok (.ifCond .eq 46, 3) := by decide +kernel
theorem d_M_wait_29 : decode prog_9_method_32_code 29 = .ok (.aload_n 0, 1) := by decide +kernel
theorem d_M_wait_30 : decode prog_9_method_32_code 30 = .ok (.getfield 41, 3) := by decide +kernel
theorem d_M_wait_33 : decode prog_9_method_32_code 33 = .ok (.iload_n 3, 1) := by decide +kernel
theorem d_M_wait_34 : decode prog_9_method_32_code 34 = .ok (.iaload, 1) := by decide +kernel
theorem d_M_wait_35 : decode prog_9_method_32_code 35 = .ok (.iload_n 1, 1) := by decide +kernel
theorem d_M_wait_36 : decode prog_9_method_32_code 36 = .ok (.if_icmp .eq 6, 3) := by decide +kernel
theorem d_M_wait_39 : decode prog_9_method_32_code 39 = .ok (.goto 33, 3) := by decide +kernel
theorem d_M_wait_42 : decode prog_9_method_32_code 42 = .ok (.iconst 1, 1) := by decide +kernel
theorem d_M_wait_43 : decode prog_9_method_32_code 43 = .ok (.istore_n 2, 1) := by decide +kernel
theorem d_M_wait_44 : decode prog_9_method_32_code 44 = .ok (.aload_n 0, 1) := by decide +kernel
theorem d_M_wait_45 : decode prog_9_method_32_code 45 = .ok (.getfield 38, 3) := by decide +kernel
theorem d_M_wait_48 : decode prog_9_method_32_code 48 = .ok (.iload_n 3, 1) := by decide +kernel
theorem d_M_wait_49 : decode prog_9_method_32_code 49 = .ok (.baload, 1) := by decide +kernel
theorem d_M_wait_50 : decode prog_9_method_32_code 50 = .ok (.ifCond .eq 22, 3) := by decide +kernel
theorem d_M_wait_53 : decode prog_9_method_32_code 53 = .ok (.aload_n 0, 1) := by decide +kernel
theorem d_M_wait_54 : decode prog_9_method_32_code 54 = .ok (.getfield 35, 3) := by decide +kernel
theorem d_M_wait_57 : decode prog_9_method_32_code 57 = .ok (.iload_n 3, 1) := by decide +kernel
theorem d_M_wait_58 : decode prog_9_method_32_code 58 = .ok (.iconst 0, 1) := by decide +kernel
theorem d_M_wait_59 : decode prog_9_method_32_code 59 = .ok (.bastore, 1) := by decide +kernel
theorem d_M_wait_60 : decode prog_9_method_32_code 60 = .ok (.iload_n 3, 1) := by decide +kernel
theorem d_M_wait_61 : decode prog_9_method_32_code 61 = .ok (.bipush 8, 2) := by decide +kernel
theorem d_M_wait_63 : decode prog_9_method_32_code 63 = .ok (.aload_n 0, 1) := by decide +kernel
theorem d_M_wait_64 : decode prog_9_method_32_code 64 = .ok (.getfield 44, 3) := by decide +kernel
theorem d_M_wait_67 : decode prog_9_method_32_code 67 = .ok (.iload_n 3, 1) := by decide +kernel
theorem d_M_wait_68 : decode prog_9_method_32_code 68 = .ok (.iaload, 1) := by decide +kernel
theorem d_M_wait_69 : decode prog_9_method_32_code 69 = .ok (.imul, 1) := by decide +kernel
theorem d_M_wait_70 : decode prog_9_method_32_code 70 = .ok (.iadd, 1) := by decide +kernel
theorem d_M_wait_71 : decode prog_9_method_32_code 71 = .ok (.ireturn, 1) := by decide +kernel
theorem d_M_wait_72 : decode prog_9_method_32_code 72 = .ok (.iinc 3 1, 3) := by decide +kernel
theorem d_M_wait_75 : decode prog_9_method_32_code 75 = .ok (.goto (-61), 3) := by decide +kernel
theorem d_M_wait_78 : decode prog_9_method_32_code 78 = .ok (.iload_n 2, 1) := by decide +kernel
theorem d_M_wait_79 : decode prog_9_method_32_code 79 = .ok (.ifCond .eq 8, 3) := by decide +kernel
theorem d_M_wait_82 : decode prog_9_method_32_code 82 = .ok (.bipush (-6), 2) := by decide +kernel
theorem d_M_wait_84 : decode prog_9_method_32_code 84 = .ok (.goto 5, 3) := by decide +kernel
theorem d_M_wait_87 : decode prog_9_method_32_code 87 = .ok (.bipush (-9), 2) := by decide +kernel
theorem d_M_wait_89 : decode prog_9_method_32_code 89 = .ok (.ireturn, 1) := by decide +kernel
theorem d_M_crash_0 : decode prog_9_method_33_code 0 = .ok (.aload_n 0, 1) := by decide +kernel
theorem d_M_crash_1 : decode prog_9_method_33_code 1 = .ok (.invokevirtual 71, 3) := by decide +kernel
theorem d_M_crash_4 : decode prog_9_method_33_code 4 = .ok (.iconst 0, 1) := by decide +kernel
theorem d_M_crash_5 : decode prog_9_method_33_code 5 = .ok (.istore_n 1, 1) := by decide +kernel
theorem d_M_crash_6 : decode prog_9_method_33_code 6 = .ok (.iload_n 1, 1) := by decide +kernel
theorem d_M_crash_7 : decode prog_9_method_33_code 7 = .ok (.bipush 8, 2) := by decide +kernel
theorem d_M_crash_9 : decode prog_9_method_33_code 9 = .ok (.if_icmp .ge 21, 3) := by decide +kernel
theorem d_M_crash_12 : decode prog_9_method_33_code 12 = .ok (.aload_n 0, 1) := by decide +kernel
theorem d_M_crash_13 : decode prog_9_method_33_code 13 = .ok (.getfield 20, 3) := by decide +kernel
theorem d_M_crash_16 : decode prog_9_method_33_code 16 = .ok (.iload_n 1, 1) := by decide +kernel
theorem d_M_crash_17 : decode prog_9_method_33_code 17 = .ok (.aload_n 0, 1) := by decide +kernel
theorem d_M_crash_18 : decode prog_9_method_33_code 18 = .ok (.getfield 13, 3) := by decide +kernel
theorem d_M_crash_21 : decode prog_9_method_33_code 21 = .ok (.iload_n 1, 1) := by decide +kernel
theorem d_M_crash_22 : decode prog_9_method_33_code 22 = .ok (.iaload, 1) := by decide +kernel
theorem d_M_crash_23 : decode prog_9_method_33_code 23 = .ok (.iastore, 1) := by decide +kernel
theorem d_M_crash_24 : decode prog_9_method_33_code 24 = .ok (.iinc 1 1, 3) := by decide +kernel
theorem d_M_crash_27 : decode prog_9_method_33_code 27 = .ok (.goto (-21), 3) := by decide +kernel
theorem d_M_crash_30 : decode prog_9_method_33_code 30 = .ok (.iconst 0, 1) := by decide +kernel
theorem d_M_crash_31 : decode prog_9_method_33_code 31 = .ok (.ireturn, 1) := by decide +kernel
theorem d_M_host_0 : decode prog_9_method_34_code 0 = .ok (.iload_n 1, 1) := by decide +kernel
theorem d_M_host_1 : decode prog_9_method_34_code 1 = .ok (.iconst 0, 1) := by decide +kernel
theorem d_M_host_2 : decode prog_9_method_34_code 2 = .ok (.bipush 7, 2) := by decide +kernel
theorem d_M_host_4 : decode prog_9_method_34_code 4 = .ok (.invokestatic 78, 3) := by decide +kernel
theorem d_M_host_7 : decode prog_9_method_34_code 7 = .ok (.ifCond .ne 5, 3) := by decide +kernel
theorem d_M_host_10 : decode prog_9_method_34_code 10 = .ok (.iconst (-1), 1) := by decide +kernel
theorem d_M_host_11 : decode prog_9_method_34_code 11 = .ok (.ireturn, 1) := by decide +kernel
theorem d_M_host_12 : decode prog_9_method_34_code 12 = .ok (.aload_n 0, 1) := by decide +kernel
theorem d_M_host_13 : decode prog_9_method_34_code 13 = .ok (.getfield 7, 3) := by decide +kernel
theorem d_M_host_16 : decode prog_9_method_34_code 16 = .ok (.iload_n 1, 1) := by decide +kernel
theorem d_M_host_17 : decode prog_9_method_34_code 17 = .ok (.baload, 1) := by decide +kernel
theorem d_M_host_18 : decode prog_9_method_34_code 18 = .ok (.ifCond .ne 6, 3) := by decide +kernel
theorem d_M_host_21 : decode prog_9_method_34_code 21 = .ok (.bipush (-4), 2) := by decide +kernel
theorem d_M_host_23 : decode prog_9_method_34_code 23 = .ok (.ireturn, 1) := by decide +kernel
theorem d_M_host_24 : decode prog_9_method_34_code 24 = .ok (.iload_n 2, 1) := by decide +kernel
theorem d_M_host_25 : decode prog_9_method_34_code 25 = .ok (.ifCond .lt 13, 3) := by decide +kernel
theorem d_M_host_28 : decode prog_9_method_34_code 28 = .ok (.iload_n 2, 1) := by decide +kernel
theorem d_M_host_29 : decode prog_9_method_34_code 29 = .ok (.aload_n 0, 1) := by decide +kernel
theorem d_M_host_30 : decode prog_9_method_34_code 30 = .ok (.getfield 13, 3) := by decide +kernel
theorem d_M_host_33 : decode prog_9_method_34_code 33 = .ok (.iload_n 1, 1) := by decide +kernel
theorem d_M_host_34 : decode prog_9_method_34_code 34 = .ok (.iaload, 1) := by decide +kernel
theorem d_M_host_35 : decode prog_9_method_34_code 35 = .ok (.if_icmp .lt 8, 3) := by decide +kernel
theorem d_M_host_38 : decode prog_9_method_34_code 38 = .ok (.bipush (-7), 2) := by decide +kernel
theorem d_M_host_40 : decode prog_9_method_34_code 40 = .ok (.goto 14, 3) := by decide +kernel
theorem d_M_host_43 : decode prog_9_method_34_code 43 = .ok (.aload_n 0, 1) := by decide +kernel
theorem d_M_host_44 : decode prog_9_method_34_code 44 = .ok (.getfield 17, 3) := by decide +kernel
theorem d_M_host_47 : decode prog_9_method_34_code 47 = .ok (.bipush 32, 2) := by decide +kernel
theorem d_M_host_49 : decode prog_9_method_34_code 49 = .ok (.iload_n 1, 1) := by decide +kernel
theorem d_M_host_50 : decode prog_9_method_34_code 50 = .ok (.imul, 1) := by decide +kernel
theorem d_M_host_51 : decode prog_9_method_34_code 51 = .ok (.iload_n 2, 1) := by decide +kernel
theorem d_M_host_52 : decode prog_9_method_34_code 52 = .ok (.iadd, 1) := by decide +kernel
theorem d_M_host_53 : decode prog_9_method_34_code 53 = .ok (.iaload, 1) := by decide +kernel
theorem d_M_host_54 : decode prog_9_method_34_code 54 = .ok (.ireturn, 1) := by decide +kernel
theorem d_M_log_0 : decode prog_9_method_35_code 0 = .ok (.iload_n 1, 1) := by decide +kernel
theorem d_M_log_1 : decode prog_9_method_35_code 1 = .ok (.iconst 0, 1) := by decide +kernel
theorem d_M_log_2 : decode prog_9_method_35_code 2 = .ok (.bipush 15, 2) := by decide +kernel
theorem d_M_log_4 : decode prog_9_method_35_code 4 = .ok (.invokestatic 78, 3) := by decide +kernel
theorem d_M_log_7 : decode prog_9_method_35_code 7 = .ok (.ifCond .eq 20, 3) := by decide +kernel
theorem d_M_log_10 : decode prog_9_method_35_code 10 = .ok (.iload_n 1, 1) := by decide +kernel
theorem d_M_log_11 : decode prog_9_method_35_code 11 = .ok (.aload_n 0, 1) := by decide +kernel
theorem d_M_log_12 : decode prog_9_method_35_code 12 = .ok (.getfield 92, 3) := by decide +kernel
theorem d_M_log_15 : decode prog_9_method_35_code 15 = .ok (.if_icmp .ge 12, 3) := by decide +kernel
theorem d_M_log_18 : decode prog_9_method_35_code 18 = .ok (.aload_n 0, 1) := by decide +kernel
theorem d_M_log_19 : decode prog_9_method_35_code 19 = .ok (.getfield 68, 3) := by decide +kernel
theorem d_M_log_22 : decode prog_9_method_35_code 22 = .ok (.iload_n 1, 1) := by decide +kernel
theorem d_M_log_23 : decode prog_9_method_35_code 23 = .ok (.iaload, 1) := by decide +kernel
theorem d_M_log_24 : decode prog_9_method_35_code 24 = .ok (.goto 4, 3) := by decide +kernel
theorem d_M_log_27 : decode prog_9_method_35_code 27 = .ok (.iconst (-1), 1) := by decide +kernel
theorem d_M_log_28 : decode prog_9_method_35_code 28 = .ok (.ireturn, 1) := by decide +kernel
theorem d_M_cached_0 : decode prog_9_method_36_code 0 = .ok (.iload_n 1, 1) := by decide +kernel
theorem d_M_cached_1 : decode prog_9_method_36_code 1 = .ok (.ifCond .lt 36, 3) := by decide +kernel
theorem d_M_cached_4 : decode prog_9_method_36_code 4 = .ok (.iload_n 1, 1) := by decide +kernel
theorem d_M_cached_5 : decode prog_9_method_36_code 5 = .ok (.aload_n 0, 1) := by decide +kernel
theorem d_M_cached_6 : decode prog_9_method_36_code 6 = .ok (.getfield 74, 3) := by decide +kernel
theorem d_M_cached_9 : decode prog_9_method_36_code 9 = .ok (.if_icmp .ge 28, 3) := by decide +kernel
theorem d_M_cached_12 : decode prog_9_method_36_code 12 = .ok (.aload_n 0, 1) := by decide +kernel
theorem d_M_cached_13 : decode prog_9_method_36_code 13 = .ok (.getfield 26, 3) := by decide +kernel
theorem d_M_cached_16 : decode prog_9_method_36_code 16 = .ok (.iload_n 1, 1) := by decide +kernel
theorem d_M_cached_17 : decode prog_9_method_36_code 17 = .ok (.iaload, 1) := by decide +kernel
theorem d_M_cached_18 : decode prog_9_method_36_code 18 = .ok (.aload_n 0, 1) := by decide +kernel
theorem d_M_cached_19 : decode prog_9_method_36_code 19 = .ok (.getfield 29, 3) := by decide +kernel
theorem d_M_cached_22 : decode prog_9_method_36_code 22 = .ok (.iload_n 1, 1) := by decide +kernel
theorem d_M_cached_23 : decode prog_9_method_36_code 23 = .ok (.baload, 1) := by decide +kernel
theorem d_M_cached_24 : decode prog_9_method_36_code 24 = .ok (.ifCond .eq 8, 3) := by decide +kernel
theorem d_M_cached_27 : decode prog_9_method_36_code 27 = .ok (.bipush 32, 2) := by decide +kernel
theorem d_M_cached_29 : decode prog_9_method_36_code 29 = .ok (.goto 4, 3) := by decide +kernel
theorem d_M_cached_32 : decode prog_9_method_36_code 32 = .ok (.iconst 0, 1) := by decide +kernel
theorem d_M_cached_33 : decode prog_9_method_36_code 33 = .ok (.iadd, 1) := by decide +kernel
theorem d_M_cached_34 : decode prog_9_method_36_code 34 = .ok (.goto 4, 3) := by decide +kernel
theorem d_M_cached_37 : decode prog_9_method_36_code 37 = .ok (.iconst (-1), 1) := by decide +kernel
theorem d_M_cached_38 : decode prog_9_method_36_code 38 = .ok (.ireturn, 1) := by decide +kernel
theorem d_M_count_0 : decode prog_9_method_37_code 0 = .ok (.iconst 0, 1) := by decide +kernel
theorem d_M_count_1 : decode prog_9_method_37_code 1 = .ok (.istore_n 2, 1) := by decide +kernel
theorem d_M_count_2 : decode prog_9_method_37_code 2 = .ok (.iconst 0, 1) := by decide +kernel
theorem d_M_count_3 : decode prog_9_method_37_code 3 = .ok (.istore_n 3, 1) := by decide +kernel
theorem d_M_count_4 : decode prog_9_method_37_code 4 = .ok (.iconst 1, 1) := by decide +kernel
theorem d_M_count_5 : decode prog_9_method_37_code 5 = .ok (.istore 4, 2) := by decide +kernel
theorem d_M_count_7 : decode prog_9_method_37_code 7 = .ok (.iload 4, 2) := by decide +kernel
theorem d_M_count_9 : decode prog_9_method_37_code 9 = .ok (.bipush 7, 2) := by decide +kernel
theorem d_M_count_11 : decode prog_9_method_37_code 11 = .ok (.if_icmp .ge 22, 3) := by decide +kernel
theorem d_M_count_14 : decode prog_9_method_37_code 14 = .ok (.aload_n 0, 1) := by decide +kernel
theorem d_M_count_15 : decode prog_9_method_37_code 15 = .ok (.getfield 35, 3) := by decide +kernel
theorem d_M_count_18 : decode prog_9_method_37_code 18 = .ok (.iload 4, 2) := by decide +kernel
theorem d_M_count_20 : decode prog_9_method_37_code 20 = .ok (.baload, 1) := by decide +kernel
theorem d_M_count_21 : decode prog_9_method_37_code 21 = .ok (.ifCond .eq 6, 3) := by decide +kernel
theorem d_M_count_24 : decode prog_9_method_37_code 24 = .ok (.iinc 2 1, 3) := by decide +kernel
theorem d_M_count_27 : decode prog_9_method_37_code 27 = .ok (.iinc 4 1, 3) := by decide +kernel
theorem d_M_count_30 : decode prog_9_method_37_code 30 = .ok (.goto (-23), 3) := by decide +kernel
theorem d_M_count_33 : decode prog_9_method_37_code 33 = .ok (.iconst 0, 1) := by decide +kernel
theorem d_M_count_34 : decode prog_9_method_37_code 34 = .ok (.istore 4, 2) := by decide +kernel
theorem d_M_count_36 : decode prog_9_method_37_code 36 = .ok (.iload 4, 2) := by decide +kernel
theorem d_M_count_38 : decode prog_9_method_37_code 38 = .ok (.aload_n 0, 1) := by decide +kernel
theorem d_M_count_39 : decode prog_9_method_37_code 39 = .ok (.getfield 74, 3) := by decide +kernel
theorem d_M_count_42 : decode prog_9_method_37_code 42 = .ok (.if_icmp .ge 22, 3) := by decide +kernel
theorem d_M_count_45 : decode prog_9_method_37_code 45 = .ok (.aload_n 0, 1) := by decide +kernel
theorem d_M_count_46 : decode prog_9_method_37_code 46 = .ok (.getfield 29, 3) := by decide +kernel
theorem d_M_count_49 : decode prog_9_method_37_code 49 = .ok (.iload 4, 2) := by decide +kernel
theorem d_M_count_51 : decode prog_9_method_37_code 51 = .ok (.baload, 1) := by decide +kernel
theorem d_M_count_52 : decode prog_9_method_37_code 52 = .ok (.ifCond .eq 6, 3) := by decide +kernel
theorem d_M_count_55 : decode prog_9_method_37_code 55 = .ok (.iinc 3 1, 3) := by decide +kernel
theorem d_M_count_58 : decode prog_9_method_37_code 58 = .ok (.iinc 4 1, 3) := by decide +kernel
theorem d_M_count_61 : decode prog_9_method_37_code 61 = .ok (.goto (-25), 3) := by decide +kernel
theorem d_M_count_64 : decode prog_9_method_37_code 64 = .ok (.iload_n 1, 1) := by decide +kernel
theorem d_M_count_65 : decode prog_9_method_37_code 65 = .ok (.tableswitch 54 0 4 #[35, 40, 45, 47, 49], 35) := by decide +kernel
theorem d_M_count_100 : decode prog_9_method_37_code 100 = .ok (.aload_n 0, 1) := by decide +kernel
theorem d_M_count_101 : decode prog_9_method_37_code 101 = .ok (.getfield 92, 3) := by decide +kernel
theorem d_M_count_104 : decode prog_9_method_37_code 104 = .ok (.ireturn, 1) := by decide +kernel
theorem d_M_count_105 : decode prog_9_method_37_code 105 = .ok (.aload_n 0, 1) := by decide +kernel
theorem d_M_count_106 : decode prog_9_method_37_code 106 = .ok (.invokevirtual 115, 3) := by decide +kernel
theorem d_M_count_109 : decode prog_9_method_37_code 109 = .ok (.ireturn, 1) := by decide +kernel
theorem d_M_count_110 : decode prog_9_method_37_code 110 = .ok (.iload_n 2, 1) := by decide +kernel
theorem d_M_count_111 : decode prog_9_method_37_code 111 = .ok (.ireturn, 1) := by decide +kernel
theorem d_M_count_112 : decode prog_9_method_37_code 112 = .ok (.iload_n 3, 1) := by decide +kernel
theorem d_M_count_113 : decode prog_9_method_37_code 113 = .ok (.ireturn, 1) := by decide +kernel
theorem d_M_count_114 : decode prog_9_method_37_code 114 = .ok (.aload_n 0, 1) := by decide +kernel
theorem d_M_count_115 : decode prog_9_method_37_code 115 = .ok (.getfield 89, 3) := by decide +kernel
theorem d_M_count_118 : decode prog_9_method_37_code 118 = .ok (.ireturn, 1) := by decide +kernel
theorem d_M_count_119 : decode prog_9_method_37_code 119 = .ok (.iconst (-1), 1) := by decide +kernel
theorem d_M_count_120 : decode prog_9_method_37_code 120 = .ok (.ireturn, 1) := by decide +kernel
end
section
/-! decode rows, by program -/
theorem d_Opening_init_0 : decode prog_5_method_1_code 0 = .ok (.aload_n 0, 1) := by decide +kernel
theorem d_Opening_init_1 : decode prog_5_method_1_code 1 = .ok (.invokespecial 3, 3) := by decide +kernel
theorem d_Opening_init_4 : decode prog_5_method_1_code 4 = .ok (.aload_n 0, 1) := by decide +kernel
theorem d_Opening_init_5 : decode prog_5_method_1_code 5 = .ok (.iconst 0, 1) := by decide +kernel
theorem d_Opening_init_6 : decode prog_5_method_1_code 6 = .ok (.putfield 9, 3) := by decide +kernel
theorem d_Opening_init_9 : decode prog_5_method_1_code 9 = .ok (.aload_n 0, 1) := by decide +kernel
theorem d_Opening_init_10 : decode prog_5_method_1_code 10 = .ok (.iconst 0, 1) := by decide +kernel
theorem d_Opening_init_11 : decode prog_5_method_1_code 11 = .ok (.putfield 15, 3) := by decide +kernel
theorem d_Opening_init_14 : decode prog_5_method_1_code 14 = .ok (.aload_n 0, 1) := by decide +kernel
theorem d_Opening_init_15 : decode prog_5_method_1_code 15 = .ok (.iconst 0, 1) := by decide +kernel
theorem d_Opening_init_16 : decode prog_5_method_1_code 16 = .ok (.putfield 18, 3) := by decide +kernel
theorem d_Opening_init_19 : decode prog_5_method_1_code 19 = .ok (.aload_n 0, 1) := by decide +kernel
theorem d_Opening_init_20 : decode prog_5_method_1_code 20 = .ok (.iconst 0, 1) := by decide +kernel
theorem d_Opening_init_21 : decode prog_5_method_1_code 21 = .ok (.putfield 21, 3) := by decide +kernel
theorem d_Opening_init_24 : decode prog_5_method_1_code 24 = .ok (.aload_n 0, 1) := by decide +kernel
theorem d_Opening_init_25 : decode prog_5_method_1_code 25 = .ok (.aconst_null, 1) := by decide +kernel
theorem d_Opening_init_26 : decode prog_5_method_1_code 26 = .ok (.putfield 24, 3) := by decide +kernel
theorem d_Opening_init_29 : decode prog_5_method_1_code 29 = .ok (.return_, 1) := by decide +kernel
theorem d_Opening_isOfFile_0 : decode prog_5_method_5_code 0 = .ok (.aload_n 0, 1) := by decide +kernel
theorem d_Opening_isOfFile_1 : decode prog_5_method_5_code 1 = .ok (.getfield 9, 3) := by decide +kernel
theorem d_Opening_isOfFile_4 : decode prog_5_method_5_code 4 = .ok (.ifCond .le 22, 3) := by decide +kernel
theorem d_Opening_isOfFile_7 : decode prog_5_method_5_code 7 = .ok (.aload_n 0, 1) := by decide +kernel
theorem d_Opening_isOfFile_8 : decode prog_5_method_5_code 8 = .ok (.getfield 24, 3) := by decide +kernel
theorem d_Opening_isOfFile_11 : decode prog_5_method_5_code 11 = .ok (.ifnonnull 15, 3) := by decide +kernel
theorem d_Opening_isOfFile_14 : decode prog_5_method_5_code 14 = .ok (.aload_n 0, 1) := by decide +kernel
theorem d_Opening_isOfFile_15 : decode prog_5_method_5_code 15 = .ok (.getfield 18, 3) := by decide +kernel
theorem d_Opening_isOfFile_18 : decode prog_5_method_5_code 18 = .ok (.iload_n 1, 1) := by decide +kernel
theorem d_Opening_isOfFile_19 : decode prog_5_method_5_code 19 = .ok (.if_icmp .ne 7, 3) := by decide +kernel
theorem d_Opening_isOfFile_22 : decode prog_5_method_5_code 22 = .ok (.iconst 1, 1) := by decide +kernel
theorem d_Opening_isOfFile_23 : decode prog_5_method_5_code 23 = .ok (.goto 4, 3) := by decide +kernel
theorem d_Opening_isOfFile_26 : decode prog_5_method_5_code 26 = .ok (.iconst 0, 1) := by decide +kernel
theorem d_Opening_isOfFile_27 : decode prog_5_method_5_code 27 = .ok (.ireturn, 1) := by decide +kernel
theorem d_Opening_becomeFile_0 : decode prog_5_method_2_code 0 = .ok (.aload_n 0, 1) := by decide +kernel
theorem d_Opening_becomeFile_1 : decode prog_5_method_2_code 1 = .ok (.aconst_null, 1) := by decide +kernel
theorem d_Opening_becomeFile_2 : decode prog_5_method_2_code 2 = .ok (.putfield 24, 3) := by decide +kernel
theorem d_Opening_becomeFile_5 : decode prog_5_method_2_code 5 = .ok (.aload_n 0, 1) := by decide +kernel
theorem d_Opening_becomeFile_6 : decode prog_5_method_2_code 6 = .ok (.iload_n 1, 1) := by decide +kernel
theorem d_Opening_becomeFile_7 : decode prog_5_method_2_code 7 = .ok (.putfield 18, 3) := by decide +kernel
theorem d_Opening_becomeFile_10 : decode prog_5_method_2_code 10 = .ok (.aload_n 0, 1) := by decide +kernel
theorem d_Opening_becomeFile_11 : decode prog_5_method_2_code 11 = .ok (.iload_n 2, 1) := by decide +kernel
theorem d_Opening_becomeFile_12 : decode prog_5_method_2_code 12 = .ok (.putfield 15, 3) := by decide +kernel
theorem d_Opening_becomeFile_15 : decode prog_5_method_2_code 15 = .ok (.aload_n 0, 1) := by decide +kernel
theorem d_Opening_becomeFile_16 : decode prog_5_method_2_code 16 = .ok (.iconst 0, 1) := by decide +kernel
theorem d_Opening_becomeFile_17 : decode prog_5_method_2_code 17 = .ok (.putfield 21, 3) := by decide +kernel
theorem d_Opening_becomeFile_20 : decode prog_5_method_2_code 20 = .ok (.return_, 1) := by decide +kernel
theorem d_Opening_becomePipeEnd_0 : decode prog_5_method_3_code 0 = .ok (.aload_n 0, 1) := by decide +kernel
theorem d_Opening_becomePipeEnd_1 : decode prog_5_method_3_code 1 = .ok (.aload_n 1, 1) := by decide +kernel
theorem d_Opening_becomePipeEnd_2 : decode prog_5_method_3_code 2 = .ok (.putfield 24, 3) := by decide +kernel
theorem d_Opening_becomePipeEnd_5 : decode prog_5_method_3_code 5 = .ok (.aload_n 0, 1) := by decide +kernel
theorem d_Opening_becomePipeEnd_6 : decode prog_5_method_3_code 6 = .ok (.iload_n 2, 1) := by decide +kernel
theorem d_Opening_becomePipeEnd_7 : decode prog_5_method_3_code 7 = .ok (.putfield 15, 3) := by decide +kernel
theorem d_Opening_becomePipeEnd_10 : decode prog_5_method_3_code 10 = .ok (.return_, 1) := by decide +kernel
theorem d_Opening_may_0 : decode prog_5_method_4_code 0 = .ok (.aload_n 0, 1) := by decide +kernel
theorem d_Opening_may_1 : decode prog_5_method_4_code 1 = .ok (.getfield 15, 3) := by decide +kernel
theorem d_Opening_may_4 : decode prog_5_method_4_code 4 = .ok (.iload_n 1, 1) := by decide +kernel
theorem d_Opening_may_5 : decode prog_5_method_4_code 5 = .ok (.iand, 1) := by decide +kernel
theorem d_Opening_may_6 : decode prog_5_method_4_code 6 = .ok (.ifCond .eq 7, 3) := by decide +kernel
theorem d_Opening_may_9 : decode prog_5_method_4_code 9 = .ok (.iconst 1, 1) := by decide +kernel
theorem d_Opening_may_10 : decode prog_5_method_4_code 10 = .ok (.goto 4, 3) := by decide +kernel
theorem d_Opening_may_13 : decode prog_5_method_4_code 13 = .ok (.iconst 0, 1) := by decide +kernel
theorem d_Opening_may_14 : decode prog_5_method_4_code 14 = .ok (.ireturn, 1) := by decide +kernel
theorem d_Opening_loseHolder_0 : decode prog_5_method_6_code 0 = .ok (.aload_n 0, 1) := by decide +kernel
theorem d_Opening_loseHolder_1 : decode prog_5_method_6_code 1 = .ok (.dup, 1) := by decide +kernel
theorem d_Opening_loseHolder_2 : decode prog_5_method_6_code 2 = .ok (.getfield 9, 3) := by decide +kernel
theorem d_Opening_loseHolder_5 : decode prog_5_method_6_code 5 = .ok (.iconst 1, 1) := by decide +kernel
theorem d_Opening_loseHolder_6 : decode prog_5_method_6_code 6 = .ok (.isub, 1) := by decide +kernel
theorem d_Opening_loseHolder_7 : decode prog_5_method_6_code 7 = .ok (.putfield 9, 3) := by decide +kernel
theorem d_Opening_loseHolder_10 : decode prog_5_method_6_code 10 = .ok (.aload_n 0, 1) := by decide +kernel
theorem d_Opening_loseHolder_11 : decode prog_5_method_6_code 11 = .ok (.getfield 9, 3) := by decide +kernel
theorem d_Opening_loseHolder_14 : decode prog_5_method_6_code 14 = .ok (.ifCond .ne 18, 3) := by decide +kernel
theorem d_Opening_loseHolder_17 : decode prog_5_method_6_code 17 = .ok (.aload_n 0, 1) := by decide +kernel
theorem d_Opening_loseHolder_18 : decode prog_5_method_6_code 18 = .ok (.getfield 24, 3) := by decide +kernel
theorem d_Opening_loseHolder_21 : decode prog_5_method_6_code 21 = .ok (.ifnull 11, 3) := by decide +kernel
theorem d_Opening_loseHolder_24 : decode prog_5_method_6_code 24 = .ok (.aload_n 0, 1) := by decide +kernel
theorem d_Opening_loseHolder_25 : decode prog_5_method_6_code 25 = .ok (.aload_n 0, 1) := by decide +kernel
theorem d_Opening_loseHolder_26 : decode prog_5_method_6_code 26 = .ok (.getfield 24, 3) := by decide +kernel
theorem d_Opening_loseHolder_29 : decode prog_5_method_6_code 29 = .ok (.invokevirtual 28, 3) := by decide +kernel
theorem d_Opening_loseHolder_32 : decode prog_5_method_6_code 32 = .ok (.return_, 1) := by decide +kernel
theorem d_Opening_leavePipe_0 : decode prog_5_method_7_code 0 = .ok (.aload_n 0, 1) := by decide +kernel
theorem d_Opening_leavePipe_1 : decode prog_5_method_7_code 1 = .ok (.iconst 1, 1) := by decide +kernel
theorem d_Opening_leavePipe_2 : decode prog_5_method_7_code 2 = .ok (.invokevirtual 32, 3) := by decide +kernel
theorem d_Opening_leavePipe_5 : decode prog_5_method_7_code 5 = .ok (.ifCond .eq 11, 3) := by decide +kernel
theorem d_Opening_leavePipe_8 : decode prog_5_method_7_code 8 = .ok (.aload_n 1, 1) := by decide +kernel
theorem d_Opening_leavePipe_9 : decode prog_5_method_7_code 9 = .ok (.iconst 0, 1) := by decide +kernel
theorem d_Opening_leavePipe_10 : decode prog_5_method_7_code 10 = .ok (.putfield 36, 3) := by decide +kernel
theorem d_Opening_leavePipe_13 : decode prog_5_method_7_code 13 = .ok (.goto 8, 3) := by decide +kernel
theorem d_Opening_leavePipe_16 : decode prog_5_method_7_code 16 = .ok (.aload_n 1, 1) := by decide +kernel
theorem d_Opening_leavePipe_17 : decode prog_5_method_7_code 17 = .ok (.iconst 0, 1) := by decide +kernel
theorem d_Opening_leavePipe_18 : decode prog_5_method_7_code 18 = .ok (.putfield 42, 3) := by decide +kernel
theorem d_Opening_leavePipe_21 : decode prog_5_method_7_code 21 = .ok (.return_, 1) := by decide +kernel
end
section
/-! decode rows, by program -/
theorem d_Pipe_init_0 : decode prog_6_method_1_code 0 = .ok (.aload_n 0, 1) := by decide +kernel
theorem d_Pipe_init_1 : decode prog_6_method_1_code 1 = .ok (.invokespecial 3, 3) := by decide +kernel
theorem d_Pipe_init_4 : decode prog_6_method_1_code 4 = .ok (.aload_n 0, 1) := by decide +kernel
theorem d_Pipe_init_5 : decode prog_6_method_1_code 5 = .ok (.iconst 4, 1) := by decide +kernel
theorem d_Pipe_init_6 : decode prog_6_method_1_code 6 = .ok (.newarray .int, 2) := by decide +kernel
theorem d_Pipe_init_8 : decode prog_6_method_1_code 8 = .ok (.putfield 9, 3) := by decide +kernel
theorem d_Pipe_init_11 : decode prog_6_method_1_code 11 = .ok (.aload_n 0, 1) := by decide +kernel
theorem d_Pipe_init_12 : decode prog_6_method_1_code 12 = .ok (.iconst 0, 1) := by decide +kernel
theorem d_Pipe_init_13 : decode prog_6_method_1_code 13 = .ok (.putfield 15, 3) := by decide +kernel
theorem d_Pipe_init_16 : decode prog_6_method_1_code 16 = .ok (.aload_n 0, 1) := by decide +kernel
theorem d_Pipe_init_17 : decode prog_6_method_1_code 17 = .ok (.iconst 0, 1) := by decide +kernel
theorem d_Pipe_init_18 : decode prog_6_method_1_code 18 = .ok (.putfield 19, 3) := by decide +kernel
theorem d_Pipe_init_21 : decode prog_6_method_1_code 21 = .ok (.aload_n 0, 1) := by decide +kernel
theorem d_Pipe_init_22 : decode prog_6_method_1_code 22 = .ok (.iconst 1, 1) := by decide +kernel
theorem d_Pipe_init_23 : decode prog_6_method_1_code 23 = .ok (.putfield 22, 3) := by decide +kernel
theorem d_Pipe_init_26 : decode prog_6_method_1_code 26 = .ok (.aload_n 0, 1) := by decide +kernel
theorem d_Pipe_init_27 : decode prog_6_method_1_code 27 = .ok (.iconst 1, 1) := by decide +kernel
theorem d_Pipe_init_28 : decode prog_6_method_1_code 28 = .ok (.putfield 26, 3) := by decide +kernel
theorem d_Pipe_init_31 : decode prog_6_method_1_code 31 = .ok (.return_, 1) := by decide +kernel
theorem d_Pipe_takeCell_0 : decode prog_6_method_2_code 0 = .ok (.aload_n 0, 1) := by decide +kernel
theorem d_Pipe_takeCell_1 : decode prog_6_method_2_code 1 = .ok (.getfield 19, 3) := by decide +kernel
theorem d_Pipe_takeCell_4 : decode prog_6_method_2_code 4 = .ok (.ifCond .ne 18, 3) := by decide +kernel
theorem d_Pipe_takeCell_7 : decode prog_6_method_2_code 7 = .ok (.aload_n 0, 1) := by decide +kernel
theorem d_Pipe_takeCell_8 : decode prog_6_method_2_code 8 = .ok (.getfield 26, 3) := by decide +kernel
theorem d_Pipe_takeCell_11 : decode prog_6_method_2_code 11 = .ok (.ifCond .eq 8, 3) := by decide +kernel
theorem d_Pipe_takeCell_14 : decode prog_6_method_2_code 14 = .ok (.bipush (-6), 2) := by decide +kernel
theorem d_Pipe_takeCell_16 : decode prog_6_method_2_code 16 = .ok (.goto 5, 3) := by decide +kernel
theorem d_Pipe_takeCell_19 : decode prog_6_method_2_code 19 = .ok (.bipush (-7), 2) := by decide +kernel
theorem d_Pipe_takeCell_21 : decode prog_6_method_2_code 21 = .ok (.ireturn, 1) := by decide +kernel
theorem d_Pipe_takeCell_22 : decode prog_6_method_2_code 22 = .ok (.aload_n 0, 1) := by decide +kernel
theorem d_Pipe_takeCell_23 : decode prog_6_method_2_code 23 = .ok (.getfield 9, 3) := by decide +kernel
theorem d_Pipe_takeCell_26 : decode prog_6_method_2_code 26 = .ok (.aload_n 0, 1) := by decide +kernel
theorem d_Pipe_takeCell_27 : decode prog_6_method_2_code 27 = .ok (.getfield 15, 3) := by decide +kernel
theorem d_Pipe_takeCell_30 : decode prog_6_method_2_code 30 = .ok (.iaload, 1) := by decide +kernel
theorem d_Pipe_takeCell_31 : decode prog_6_method_2_code 31 = .ok (.istore_n 1, 1) := by decide +kernel
theorem d_Pipe_takeCell_32 : decode prog_6_method_2_code 32 = .ok (.aload_n 0, 1) := by decide +kernel
theorem d_Pipe_takeCell_33 : decode prog_6_method_2_code 33 = .ok (.aload_n 0, 1) := by decide +kernel
theorem d_Pipe_takeCell_34 : decode prog_6_method_2_code 34 = .ok (.getfield 15, 3) := by decide +kernel
theorem d_Pipe_takeCell_37 : decode prog_6_method_2_code 37 = .ok (.iconst 1, 1) := by decide +kernel
theorem d_Pipe_takeCell_38 : decode prog_6_method_2_code 38 = .ok (.iadd, 1) := by decide +kernel
theorem d_Pipe_takeCell_39 : decode prog_6_method_2_code 39 = .ok (.iconst 4, 1) := by decide +kernel
theorem d_Pipe_takeCell_40 : decode prog_6_method_2_code 40 = .ok (.irem, 1) := by decide +kernel
theorem d_Pipe_takeCell_41 : decode prog_6_method_2_code 41 = .ok (.putfield 15, 3) := by decide +kernel
theorem d_Pipe_takeCell_44 : decode prog_6_method_2_code 44 = .ok (.aload_n 0, 1) := by decide +kernel
theorem d_Pipe_takeCell_45 : decode prog_6_method_2_code 45 = .ok (.dup, 1) := by decide +kernel
theorem d_Pipe_takeCell_46 : decode prog_6_method_2_code 46 = .ok (.getfield 19, 3) := by decide +kernel
theorem d_Pipe_takeCell_49 : decode prog_6_method_2_code 49 = .ok (.iconst 1, 1) := by decide +kernel
theorem d_Pipe_takeCell_50 : decode prog_6_method_2_code 50 = .ok (.isub, 1) := by decide +kernel
theorem d_Pipe_takeCell_51 : decode prog_6_method_2_code 51 = .ok (.putfield 19, 3) := by decide +kernel
theorem d_Pipe_takeCell_54 : decode prog_6_method_2_code 54 = .ok (.iload_n 1, 1) := by decide +kernel
theorem d_Pipe_takeCell_55 : decode prog_6_method_2_code 55 = .ok (.ireturn, 1) := by decide +kernel
theorem d_Pipe_addCell_0 : decode prog_6_method_3_code 0 = .ok (.aload_n 0, 1) := by decide +kernel
theorem d_Pipe_addCell_1 : decode prog_6_method_3_code 1 = .ok (.getfield 22, 3) := by decide +kernel
theorem d_Pipe_addCell_4 : decode prog_6_method_3_code 4 = .ok (.ifCond .ne 6, 3) := by decide +kernel
theorem d_Pipe_addCell_7 : decode prog_6_method_3_code 7 = .ok (.bipush (-7), 2) := by decide +kernel
theorem d_Pipe_addCell_9 : decode prog_6_method_3_code 9 = .ok (.ireturn, 1) := by decide +kernel
theorem d_Pipe_addCell_10 : decode prog_6_method_3_code 10 = .ok (.aload_n 0, 1) := by decide +kernel
theorem d_Pipe_addCell_11 : decode prog_6_method_3_code 11 = .ok (.getfield 19, 3) := by decide +kernel
theorem d_Pipe_addCell_14 : decode prog_6_method_3_code 14 = .ok (.iconst 4, 1) := by decide +kernel
theorem d_Pipe_addCell_15 : decode prog_6_method_3_code 15 = .ok (.if_icmp .ne 6, 3) := by decide +kernel
theorem d_Pipe_addCell_18 : decode prog_6_method_3_code 18 = .ok (.bipush (-6), 2) := by decide +kernel
theorem d_Pipe_addCell_20 : decode prog_6_method_3_code 20 = .ok (.ireturn, 1) := by decide +kernel
theorem d_Pipe_addCell_21 : decode prog_6_method_3_code 21 = .ok (.aload_n 0, 1) := by decide +kernel
theorem d_Pipe_addCell_22 : decode prog_6_method_3_code 22 = .ok (.getfield 9, 3) := by decide +kernel
theorem d_Pipe_addCell_25 : decode prog_6_method_3_code 25 = .ok (.aload_n 0, 1) := by decide +kernel
theorem d_Pipe_addCell_26 : decode prog_6_method_3_code 26 = .ok (.getfield 15, 3) := by decide +kernel
theorem d_Pipe_addCell_29 : decode prog_6_method_3_code 29 = .ok (.aload_n 0, 1) := by decide +kernel
theorem d_Pipe_addCell_30 : decode prog_6_method_3_code 30 = .ok (.getfield 19, 3) := by decide +kernel
theorem d_Pipe_addCell_33 : decode prog_6_method_3_code 33 = .ok (.iadd, 1) := by decide +kernel
theorem d_Pipe_addCell_34 : decode prog_6_method_3_code 34 = .ok (.iconst 4, 1) := by decide +kernel
theorem d_Pipe_addCell_35 : decode prog_6_method_3_code 35 = .ok (.irem, 1) := by decide +kernel
theorem d_Pipe_addCell_36 : decode prog_6_method_3_code 36 = .ok (.iload_n 1, 1) := by decide +kernel
theorem d_Pipe_addCell_37 : decode prog_6_method_3_code 37 = .ok (.iastore, 1) := by decide +kernel
theorem d_Pipe_addCell_38 : decode prog_6_method_3_code 38 = .ok (.aload_n 0, 1) := by decide +kernel
theorem d_Pipe_addCell_39 : decode prog_6_method_3_code 39 = .ok (.dup, 1) := by decide +kernel
theorem d_Pipe_addCell_40 : decode prog_6_method_3_code 40 = .ok (.getfield 19, 3) := by decide +kernel
theorem d_Pipe_addCell_43 : decode prog_6_method_3_code 43 = .ok (.iconst 1, 1) := by decide +kernel
theorem d_Pipe_addCell_44 : decode prog_6_method_3_code 44 = .ok (.iadd, 1) := by decide +kernel
theorem d_Pipe_addCell_45 : decode prog_6_method_3_code 45 = .ok (.putfield 19, 3) := by decide +kernel
theorem d_Pipe_addCell_48 : decode prog_6_method_3_code 48 = .ok (.iconst 1, 1) := by decide +kernel
theorem d_Pipe_addCell_49 : decode prog_6_method_3_code 49 = .ok (.ireturn, 1) := by decide +kernel
end
section
/-! decode rows, by program -/
theorem d_Task_init_0 : decode prog_7_method_1_code 0 = .ok (.aload_n 0, 1) := by decide +kernel
theorem d_Task_init_1 : decode prog_7_method_1_code 1 = .ok (.invokespecial 3, 3) := by decide +kernel
theorem d_Task_init_4 : decode prog_7_method_1_code 4 = .ok (.aload_n 0, 1) := by decide +kernel
theorem d_Task_init_5 : decode prog_7_method_1_code 5 = .ok (.iconst 0, 1) := by decide +kernel
theorem d_Task_init_6 : decode prog_7_method_1_code 6 = .ok (.putfield 11, 3) := by decide +kernel
theorem d_Task_init_9 : decode prog_7_method_1_code 9 = .ok (.aload_n 0, 1) := by decide +kernel
theorem d_Task_init_10 : decode prog_7_method_1_code 10 = .ok (.iconst (-1), 1) := by decide +kernel
theorem d_Task_init_11 : decode prog_7_method_1_code 11 = .ok (.putfield 15, 3) := by decide +kernel
theorem d_Task_init_14 : decode prog_7_method_1_code 14 = .ok (.aload_n 0, 1) := by decide +kernel
theorem d_Task_init_15 : decode prog_7_method_1_code 15 = .ok (.iconst 0, 1) := by decide +kernel
theorem d_Task_init_16 : decode prog_7_method_1_code 16 = .ok (.putfield 18, 3) := by decide +kernel
theorem d_Task_init_19 : decode prog_7_method_1_code 19 = .ok (.aload_n 0, 1) := by decide +kernel
theorem d_Task_init_20 : decode prog_7_method_1_code 20 = .ok (.bipush 6, 2) := by decide +kernel
theorem d_Task_init_22 : decode prog_7_method_1_code 22 = .ok (.anewarray 21, 3) := by decide +kernel
theorem d_Task_init_25 : decode prog_7_method_1_code 25 = .ok (.putfield 23, 3) := by decide +kernel
theorem d_Task_init_28 : decode prog_7_method_1_code 28 = .ok (.return_, 1) := by decide +kernel
theorem d_Task_begin_0 : decode prog_7_method_2_code 0 = .ok (.aload_n 0, 1) := by decide +kernel
theorem d_Task_begin_1 : decode prog_7_method_2_code 1 = .ok (.iconst 1, 1) := by decide +kernel
theorem d_Task_begin_2 : decode prog_7_method_2_code 2 = .ok (.putfield 11, 3) := by decide +kernel
theorem d_Task_begin_5 : decode prog_7_method_2_code 5 = .ok (.aload_n 0, 1) := by decide +kernel
theorem d_Task_begin_6 : decode prog_7_method_2_code 6 = .ok (.iload_n 1, 1) := by decide +kernel
theorem d_Task_begin_7 : decode prog_7_method_2_code 7 = .ok (.putfield 15, 3) := by decide +kernel
theorem d_Task_begin_10 : decode prog_7_method_2_code 10 = .ok (.return_, 1) := by decide +kernel
theorem d_Task_freeFrom_0 : decode prog_7_method_6_code 0 = .ok (.iload_n 1, 1) := by decide +kernel
theorem d_Task_freeFrom_1 : decode prog_7_method_6_code 1 = .ok (.istore_n 2, 1) := by decide +kernel
theorem d_Task_freeFrom_2 : decode prog_7_method_6_code 2 = .ok (.iload_n 2, 1) := by decide +kernel
theorem d_Task_freeFrom_3 : decode prog_7_method_6_code 3 = .ok (.bipush 6, 2) := by decide +kernel
theorem d_Task_freeFrom_5 : decode prog_7_method_6_code 5 = .ok (.if_icmp .ge 20, 3) := by decide +kernel
theorem d_Task_freeFrom_8 : decode prog_7_method_6_code 8 = .ok (.aload_n 0, 1) := by decide +kernel
theorem d_Task_freeFrom_9 : decode prog_7_method_6_code 9 = .ok (.getfield 23, 3) := by decide +kernel
theorem d_Task_freeFrom_12 : decode prog_7_method_6_code 12 = .ok (.iload_n 2, 1) := by decide +kernel
theorem d_Task_freeFrom_13 : decode prog_7_method_6_code 13 = .ok (.aaload, 1) := by decide +kernel
theorem d_Task_freeFrom_14 : decode prog_7_method_6_code 14 = .ok (.ifnonnull 5, 3) := by decide +kernel
theorem d_Task_freeFrom_17 : decode prog_7_method_6_code 17 = .ok (.iload_n 2, 1) := by decide +kernel
theorem d_Task_freeFrom_18 : decode prog_7_method_6_code 18 = .ok (.ireturn, 1) := by decide +kernel
theorem d_Task_freeFrom_19 : decode prog_7_method_6_code 19 = .ok (.iinc 2 1, 3) := by decide +kernel
theorem d_Task_freeFrom_22 : decode prog_7_method_6_code 22 = .ok (.goto (-20), 3) := by decide +kernel
theorem d_Task_freeFrom_25 : decode prog_7_method_6_code 25 = .ok (.iconst (-1), 1) := by decide +kernel
theorem d_Task_freeFrom_26 : decode prog_7_method_6_code 26 = .ok (.ireturn, 1) := by decide +kernel
theorem d_Task_hold_0 : decode prog_7_method_7_code 0 = .ok (.aload_n 0, 1) := by decide +kernel
theorem d_Task_hold_1 : decode prog_7_method_7_code 1 = .ok (.getfield 23, 3) := by decide +kernel
theorem d_Task_hold_4 : decode prog_7_method_7_code 4 = .ok (.iload_n 1, 1) := by decide +kernel
theorem d_Task_hold_5 : decode prog_7_method_7_code 5 = .ok (.aload_n 2, 1) := by decide +kernel
theorem d_Task_hold_6 : decode prog_7_method_7_code 6 = .ok (.aastore, 1) := by decide +kernel
theorem d_Task_hold_7 : decode prog_7_method_7_code 7 = .ok (.aload_n 2, 1) := by decide +kernel
theorem d_Task_hold_8 : decode prog_7_method_7_code 8 = .ok (.dup, 1) := by decide +kernel
theorem d_Task_hold_9 : decode prog_7_method_7_code 9 = .ok (.getfield 30, 3) := by decide +kernel
theorem d_Task_hold_12 : decode prog_7_method_7_code 12 = .ok (.iconst 1, 1) := by decide +kernel
theorem d_Task_hold_13 : decode prog_7_method_7_code 13 = .ok (.iadd, 1) := by decide +kernel
theorem d_Task_hold_14 : decode prog_7_method_7_code 14 = .ok (.putfield 30, 3) := by decide +kernel
theorem d_Task_hold_17 : decode prog_7_method_7_code 17 = .ok (.return_, 1) := by decide +kernel
theorem d_Task_letGo_0 : decode prog_7_method_8_code 0 = .ok (.aload_n 0, 1) := by decide +kernel
theorem d_Task_letGo_1 : decode prog_7_method_8_code 1 = .ok (.getfield 23, 3) := by decide +kernel
theorem d_Task_letGo_4 : decode prog_7_method_8_code 4 = .ok (.iload_n 1, 1) := by decide +kernel
theorem d_Task_letGo_5 : decode prog_7_method_8_code 5 = .ok (.aaload, 1) := by decide +kernel
theorem d_Task_letGo_6 : decode prog_7_method_8_code 6 = .ok (.astore_n 2, 1) := by decide +kernel
theorem d_Task_letGo_7 : decode prog_7_method_8_code 7 = .ok (.aload_n 2, 1) := by decide +kernel
theorem d_Task_letGo_8 : decode prog_7_method_8_code 8 = .ok (.ifnull 14, 3) := by decide +kernel
theorem d_Task_letGo_11 : decode prog_7_method_8_code 11 = .ok (.aload_n 0, 1) := by decide +kernel
theorem d_Task_letGo_12 : decode prog_7_method_8_code 12 = .ok (.getfield 23, 3) := by decide +kernel
theorem d_Task_letGo_15 : decode prog_7_method_8_code 15 = .ok (.iload_n 1, 1) := by decide +kernel
theorem d_Task_letGo_16 : decode prog_7_method_8_code 16 = .ok (.aconst_null, 1) := by decide +kernel
theorem d_Task_letGo_17 : decode prog_7_method_8_code 17 = .ok (.aastore, 1) := by decide +kernel
theorem d_Task_letGo_18 : decode prog_7_method_8_code 18 = .ok (.aload_n 2, 1) := by decide +kernel
theorem d_Task_letGo_19 : decode prog_7_method_8_code 19 = .ok (.invokevirtual 33, 3) := by decide +kernel
theorem d_Task_letGo_22 : decode prog_7_method_8_code 22 = .ok (.return_, 1) := by decide +kernel
theorem d_Task_shareAllOf_0 : decode prog_7_method_9_code 0 = .ok (.iconst 0, 1) := by decide +kernel
theorem d_Task_shareAllOf_1 : decode prog_7_method_9_code 1 = .ok (.istore_n 2, 1) := by decide +kernel
theorem d_Task_shareAllOf_2 : decode prog_7_method_9_code 2 = .ok (.iload_n 2, 1) := by decide +kernel
theorem d_Task_shareAllOf_3 : decode prog_7_method_9_code 3 = .ok (.bipush 6, 2) := by decide +kernel
theorem d_Task_shareAllOf_5 : decode prog_7_method_9_code 5 = .ok (.if_icmp .ge 26, 3) := by decide +kernel
theorem d_Task_shareAllOf_8 : decode prog_7_method_9_code 8 = .ok (.aload_n 1, 1) := by decide +kernel
theorem d_Task_shareAllOf_9 : decode prog_7_method_9_code 9 = .ok (.getfield 23, 3) := by decide +kernel
theorem d_Task_shareAllOf_12 : decode prog_7_method_9_code 12 = .ok (.iload_n 2, 1) := by decide +kernel
theorem d_Task_shareAllOf_13 : decode prog_7_method_9_code 13 = .ok (.aaload, 1) := by decide +kernel
theorem d_Task_shareAllOf_14 : decode prog_7_method_9_code 14 = .ok (.astore_n 3, 1) := by decide +kernel
theorem d_Task_shareAllOf_15 : decode prog_7_method_9_code 15 = .ok (.aload_n 3, 1) := by decide +kernel
theorem d_Task_shareAllOf_16 : decode prog_7_method_9_code 16 = .ok (.ifnull 9, 3) := by decide +kernel
theorem d_Task_shareAllOf_19 : decode prog_7_method_9_code 19 = .ok (.aload_n 0, 1) := by decide +kernel
theorem d_Task_shareAllOf_20 : decode prog_7_method_9_code 20 = .ok (.iload_n 2, 1) := by decide +kernel
theorem d_Task_shareAllOf_21 : decode prog_7_method_9_code 21 = .ok (.aload_n 3, 1) := by decide +kernel
theorem d_Task_shareAllOf_22 : decode prog_7_method_9_code 22 = .ok (.invokevirtual 36, 3) := by decide +kernel
theorem d_Task_shareAllOf_25 : decode prog_7_method_9_code 25 = .ok (.iinc 2 1, 3) := by decide +kernel
theorem d_Task_shareAllOf_28 : decode prog_7_method_9_code 28 = .ok (.goto (-26), 3) := by decide +kernel
theorem d_Task_shareAllOf_31 : decode prog_7_method_9_code 31 = .ok (.return_, 1) := by decide +kernel
theorem d_Task_finish_0 : decode prog_7_method_3_code 0 = .ok (.aload_n 0, 1) := by decide +kernel
theorem d_Task_finish_1 : decode prog_7_method_3_code 1 = .ok (.invokevirtual 27, 3) := by decide +kernel
theorem d_Task_finish_4 : decode prog_7_method_3_code 4 = .ok (.aload_n 0, 1) := by decide +kernel
theorem d_Task_finish_5 : decode prog_7_method_3_code 5 = .ok (.iconst 2, 1) := by decide +kernel
theorem d_Task_finish_6 : decode prog_7_method_3_code 6 = .ok (.putfield 11, 3) := by decide +kernel
theorem d_Task_finish_9 : decode prog_7_method_3_code 9 = .ok (.aload_n 0, 1) := by decide +kernel
theorem d_Task_finish_10 : decode prog_7_method_3_code 10 = .ok (.iload_n 1, 1) := by decide +kernel
theorem d_Task_finish_11 : decode prog_7_method_3_code 11 = .ok (.putfield 18, 3) := by decide +kernel
theorem d_Task_finish_14 : decode prog_7_method_3_code 14 = .ok (.return_, 1) := by decide +kernel
theorem d_Task_letGoAll_0 : decode prog_7_method_10_code 0 = .ok (.iconst 0, 1) := by decide +kernel
theorem d_Task_letGoAll_1 : decode prog_7_method_10_code 1 = .ok (.istore_n 1, 1) := by decide +kernel
theorem d_Task_letGoAll_2 : decode prog_7_method_10_code 2 = .ok (.iload_n 1, 1) := by decide +kernel
theorem d_Task_letGoAll_3 : decode prog_7_method_10_code 3 = .ok (.bipush 6, 2) := by decide +kernel
theorem d_Task_letGoAll_5 : decode prog_7_method_10_code 5 = .ok (.if_icmp .ge 14, 3) := by decide +kernel
theorem d_Task_letGoAll_8 : decode prog_7_method_10_code 8 = .ok (.aload_n 0, 1) := by decide +kernel
theorem d_Task_letGoAll_9 : decode prog_7_method_10_code 9 = .ok (.iload_n 1, 1) := by decide +kernel
theorem d_Task_letGoAll_10 : decode prog_7_method_10_code 10 = .ok (.invokevirtual 40, 3) := by decide +kernel
theorem d_Task_letGoAll_13 : decode prog_7_method_10_code 13 = .ok (.iinc 1 1, 3) := by decide +kernel
theorem d_Task_letGoAll_16 : decode prog_7_method_10_code 16 = .ok (.goto (-14), 3) := by decide +kernel
theorem d_Task_letGoAll_19 : decode prog_7_method_10_code 19 = .ok (.return_, 1) := by decide +kernel
theorem d_Task_isChildOf_0 : decode prog_7_method_5_code 0 = .ok (.aload_n 0, 1) := by decide +kernel
theorem d_Task_isChildOf_1 : decode prog_7_method_5_code 1 = .ok (.getfield 11, 3) := by decide +kernel
theorem d_Task_isChildOf_4 : decode prog_7_method_5_code 4 = .ok (.ifCond .eq 15, 3) := by decide +kernel
theorem d_Task_isChildOf_7 : decode prog_7_method_5_code 7 = .ok (.aload_n 0, 1) := by decide +kernel
theorem d_Task_isChildOf_8 : decode prog_7_method_5_code 8 = .ok (.getfield 15, 3) := by decide +kernel
theorem d_Task_isChildOf_11 : decode prog_7_method_5_code 11 = .ok (.iload_n 1, 1) := by decide +kernel
theorem d_Task_isChildOf_12 : decode prog_7_method_5_code 12 = .ok (.if_icmp .ne 7, 3) := by decide +kernel
theorem d_Task_isChildOf_15 : decode prog_7_method_5_code 15 = .ok (.iconst 1, 1) := by decide +kernel
theorem d_Task_isChildOf_16 : decode prog_7_method_5_code 16 = .ok (.goto 4, 3) := by decide +kernel
theorem d_Task_isChildOf_19 : decode prog_7_method_5_code 19 = .ok (.iconst 0, 1) := by decide +kernel
theorem d_Task_isChildOf_20 : decode prog_7_method_5_code 20 = .ok (.ireturn, 1) := by decide +kernel
theorem d_Task_vanish_0 : decode prog_7_method_4_code 0 = .ok (.aload_n 0, 1) := by decide +kernel
theorem d_Task_vanish_1 : decode prog_7_method_4_code 1 = .ok (.invokevirtual 27, 3) := by decide +kernel
theorem d_Task_vanish_4 : decode prog_7_method_4_code 4 = .ok (.aload_n 0, 1) := by decide +kernel
theorem d_Task_vanish_5 : decode prog_7_method_4_code 5 = .ok (.iconst 0, 1) := by decide +kernel
theorem d_Task_vanish_6 : decode prog_7_method_4_code 6 = .ok (.putfield 11, 3) := by decide +kernel
theorem d_Task_vanish_9 : decode prog_7_method_4_code 9 = .ok (.return_, 1) := by decide +kernel
end
section
/-! the document as a function: the file side (host, LENGTH, cache), the openings, the processes -/
/-- there, the host's length, its cells, the log (0 the newest), operations, still to fail -/
abbrev xs_H : Type := (Nat → Bool) × (Nat → Nat) × (Nat → Nat → Int32) × (Nat → Int32) × Nat × Nat
/-- a block: file, number, dirty, cells -/
abbrev xs_B : Type := Nat × Nat × Bool × (Nat → Int32)
/-- host, LENGTH, the cache's blocks, the last used first -/
abbrev xs_F : Type := xs_H × (Nat → Nat) × List xs_B
/-- of (6 * process + descriptor), kind (0 a file, 1 a reading end, 2 a writing end), what (file or pipe), mode, position, the pipes' cells -/
abbrev xs_O : Type := (Nat → Option Nat) × (Nat → Nat) × (Nat → Nat) × (Nat → Nat) × (Nat → Nat) × (Nat → List Int32)
/-- 0 not there, 1 alive, 2 ended; parent; code -/
abbrev xs_T : Type := (Nat → Nat) × (Nat → Nat) × (Nat → Nat)
/-- the file side, policies, openings, processes -/
abbrev xs_S : Type := xs_F × (Nat → Nat) × xs_O × xs_T
def xs_u {α : Type} (f : Nat → α) (k : Nat) (v : α) : Nat → α := fun j => if j = k then v else f j
theorem xs_u_s {α : Type} {f : Nat → α} {k : Nat} {v : α} : xs_u f k v k = v := if_pos rfl
theorem xs_u_n {α : Type} {f : Nat → α} {k j : Nat} {v : α} (h : j ≠ k) : xs_u f k v j = f j := if_neg h
def xs_bi (b : Bool) : Int32 := if b = true then nI 1 else nI 0
/-- a host operation: noted; whether it is done -/
def xs_op (h : xs_H) (o f b : Nat) : xs_H × Bool :=
  ((h.1, h.2.1, h.2.2.1, (fun j => if j = 0 then nI (o + 8 * f + 64 * b + (if h.2.2.2.2.2 = 0 then 0 else 256)) else h.2.2.2.1 (j - 1)), h.2.2.2.2.1 + 1, h.2.2.2.2.2 - 1), decide (h.2.2.2.2.2 = 0))
/-- the host's file has no cells -/
def xs_clear (h : xs_H) (f : Nat) : xs_H := (h.1, xs_u h.2.1 f 0, xs_u h.2.2.1 f (fun _ => 0), h.2.2.2)
def xs_there (h : xs_H) (f : Nat) (b : Bool) : xs_H := (xs_u h.1 f b, h.2)
/-- a block is written out -/
def xs_wr (F : xs_F) (x : xs_B) : xs_F × Bool :=
  let h := (xs_op F.1 1 x.1 x.2.1).1
  if (xs_op F.1 1 x.1 x.2.1).2 = true then
    (((h.1, xs_u h.2.1 x.1 (max (h.2.1 x.1) (min (8 * x.2.1 + 8) (F.2.1 x.1))), xs_u h.2.2.1 x.1 (fun i => if 8 * x.2.1 ≤ i ∧ i < min (8 * x.2.1 + 8) (F.2.1 x.1) then x.2.2.2 (i - 8 * x.2.1) else h.2.2.1 x.1 i), h.2.2.2), F.2), true)
  else ((h, F.2), false)
def xs_is (f b : Nat) (x : xs_B) : Bool := decide (x.1 = f ∧ x.2.1 = b)
/-- room for a block: the last one leaves -/
def xs_rm (F : xs_F) : xs_F × Bool :=
  if F.2.2.length < 5 then (F, true)
  else match F.2.2[4]? with
    | none => (F, true)
    | some x => if x.2.2.1 = true then
        (if (xs_wr F x).2 = true then (((xs_wr F x).1.1, F.2.1, F.2.2.take 4), true) else ((xs_wr F x).1, false))
      else ((F.1, F.2.1, F.2.2.take 4), true)
/-- a block comes in, as the last used one -/
def xs_in (F : xs_F) (f b : Nat) : xs_F × Bool :=
  if 8 * b < F.2.1 f then
    (if (xs_op F.1 0 f b).2 = true then (((xs_op F.1 0 f b).1, F.2.1, (f, b, false, fun k => F.1.2.2.1 f (8 * b + k)) :: F.2.2), true) else (((xs_op F.1 0 f b).1, F.2), false))
  else ((F.1, F.2.1, (f, b, false, fun _ => 0) :: F.2.2), true)
/-- to get a block -/
def xs_get (F : xs_F) (f b : Nat) : xs_F × Bool := match F.2.2.findIdx? (xs_is f b) with
  | some i => ((F.1, F.2.1, (F.2.2[i]?).toList ++ F.2.2.eraseIdx i), true)
  | none => if (xs_rm F).2 = true then xs_in (xs_rm F).1 f b else xs_rm F
def xs_drop (F : xs_F) (f : Nat) : xs_F := (F.1, F.2.1, F.2.2.filter (fun x => decide (x.1 ≠ f)))
def xs_len (F : xs_F) (f l : Nat) : xs_F := (F.1, xs_u F.2.1 f l, F.2.2)
/-- sync: the dirty blocks of a file from a number on -/
def xs_sy (f : Nat) : Nat → Nat → xs_F → Int32 × xs_F
  | 0, w, F => (nI w, F)
  | k + 1, w, F => match F.2.2.findIdx? (xs_is f (3 - k)) with
    | none => xs_sy f k w F
    | some i => match F.2.2[i]? with
      | none => xs_sy f k w F
      | some x => if x.2.2.1 = true then
          (if (xs_wr F x).2 = true then xs_sy f k (w + 1) ((xs_wr F x).1.1, F.2.1, F.2.2.set i (x.1, x.2.1, false, x.2.2.2)) else (-8, (xs_wr F x).1))
        else xs_sy f k w F
/-- a number that is one of 0 .. k - 1 -/
def xs_nat (x : Int32) (k : Nat) : Option Nat := if 0 ≤ x.toInt ∧ x.toInt < k then some x.toInt.toNat else none
/-- how many descriptors are of an opening -/
def xs_cnt (g : Nat → Option Nat) (o : Nat) : Nat → Nat
  | 0 => 0
  | k + 1 => xs_cnt g o k + (if g k = some o then 1 else 0)
def xs_used (O : xs_O) (o : Nat) : Bool := decide (xs_cnt O.1 o 42 ≠ 0)
/-- the least number from i on, below i + k, with p -/
def xs_least (p : Nat → Bool) : Nat → Nat → Option Nat
  | _, 0 => none
  | i, k + 1 => if p i = true then some i else xs_least p (i + 1) k
def xs_num (p : Nat → Bool) : Nat → Nat
  | 0 => 0
  | k + 1 => xs_num p k + (if p k = true then 1 else 0)
def xs_free (O : xs_O) (p d : Nat) : Option Nat := xs_least (fun d => decide (O.1 (6 * p + d) = none)) d (6 - d)
def xs_openF (O : xs_O) (f : Nat) : Bool := (xs_least (fun o => xs_used O o && decide (O.2.1 o = 0 ∧ O.2.2.1 o = f)) 0 16).isSome
def xs_end (O : xs_O) (q k : Nat) : Bool := (xs_least (fun o => xs_used O o && decide (O.2.1 o = k ∧ O.2.2.1 o = q)) 0 16).isSome
def xs_ops (O : xs_O) : Nat := xs_num (xs_used O) 16
/-- a new opening -/
def xs_nO (O : xs_O) (k w md : Nat) : Nat × xs_O := match xs_least (fun o => !xs_used O o) 0 16 with
  | none => (0, O)
  | some o => (o, O.1, xs_u O.2.1 o k, xs_u O.2.2.1 o w, xs_u O.2.2.2.1 o md, xs_u O.2.2.2.2.1 o 0, O.2.2.2.2.2)
def xs_of (O : xs_O) (k : Nat) (v : Option Nat) : xs_O := (xs_u O.1 k v, O.2)
def xs_alive (T : xs_T) (x : Int32) : Option Nat := match xs_nat x 7 with
  | none => none
  | some p => if T.1 p = 1 then some p else none
/-- the opening that a descriptor is of, or what to answer -/
def xs_desc (s : xs_S) (p d : Int32) : Int32 ⊕ (Nat × Nat × Nat) := match xs_alive s.2.2.2 p, xs_nat d 6 with
  | some p, some d => (match s.2.2.1.1 (6 * p + d) with
    | none => .inl (-3)
    | some o => .inr (p, d, o))
  | _, _ => .inl (-1)
def xs_put (s : xs_S) (a b c : Int32) : Int32 × xs_S := match xs_nat a 8, xs_nat b 33 with
  | some f, some l => if xs_openF s.2.2.1 f = true ∨ (s.1.2.2.any (fun x => decide (x.1 = f))) = true then (-9, s)
      else (0, (((xs_u s.1.1.1 f true, xs_u s.1.1.2.1 f l, xs_u s.1.1.2.2.1 f (fun i => if i < l then (c + nI (7 * i)) &&& nI 255 else 0), s.1.1.2.2.2), xs_u s.1.2.1 f l, s.1.2.2), s.2))
  | _, _ => (-1, s)
def xs_policy (s : xs_S) (a b : Int32) : Int32 × xs_S := match xs_nat a 8, xs_nat b 3 with
  | some f, some p => (0, (s.1, xs_u s.2.1 f p, s.2.2))
  | _, _ => (-1, s)
def xs_failing (s : xs_S) (a : Int32) : Int32 × xs_S := match xs_nat a 10 with
  | some k => (0, (((s.1.1.1, s.1.1.2.1, s.1.1.2.2.1, s.1.1.2.2.2.1, s.1.1.2.2.2.2.1, k), s.1.2), s.2))
  | none => (-1, s)
def xs_open (s : xs_S) (a b c : Int32) : Int32 × xs_S := match xs_alive s.2.2.2 a, xs_nat b 8, xs_nat c 32 with
  | some p, some f, some md =>
    if s.2.1 f = 0 ∨ (s.1.1.1 f = false ∧ md / 8 % 2 = 0) then (-4, s)
    else if s.2.1 f = 1 ∧ 1 < md then (-5, s)
    else (match xs_free s.2.2.1 p 0 with
      | none => (-2, s)
      | some d => if xs_ops s.2.2.1 = 16 then (-2, s)
        else if s.1.1.1 f = false then
          (if (xs_op s.1.1 2 f 0).2 = true then
            (nI d, ((xs_there (xs_clear (xs_op s.1.1 2 f 0).1 f) f true, xs_u s.1.2.1 f 0, s.1.2.2), s.2.1, xs_of (xs_nO s.2.2.1 0 f md).2 (6 * p + d) (some (xs_nO s.2.2.1 0 f md).1), s.2.2.2))
          else (-8, (((xs_op s.1.1 2 f 0).1, s.1.2), s.2)))
        else if md / 16 = 1 then
          (if (xs_op s.1.1 3 f 0).2 = true then
            (nI d, (xs_len (xs_drop (xs_clear (xs_op s.1.1 3 f 0).1 f, s.1.2) f) f 0, s.2.1, xs_of (xs_nO s.2.2.1 0 f md).2 (6 * p + d) (some (xs_nO s.2.2.1 0 f md).1), s.2.2.2))
          else (-8, (((xs_op s.1.1 3 f 0).1, s.1.2), s.2)))
        else (nI d, (s.1, s.2.1, xs_of (xs_nO s.2.2.1 0 f md).2 (6 * p + d) (some (xs_nO s.2.2.1 0 f md).1), s.2.2.2)))
  | _, _, _ => (-1, s)
def xs_pipe (s : xs_S) (a : Int32) : Int32 × xs_S := match xs_alive s.2.2.2 a with
  | none => (-1, s)
  | some p => match xs_free s.2.2.1 p 0 with
    | none => (-2, s)
    | some d => match xs_free s.2.2.1 p (d + 1) with
      | none => (-2, s)
      | some e => if 14 < xs_ops s.2.2.1 then (-2, s)
        else match xs_least (fun q => !(xs_end s.2.2.1 q 1 || xs_end s.2.2.1 q 2)) 0 16 with
          | none => (-2, s)
          | some q =>
            let O1 : xs_O := (s.2.2.1.1, s.2.2.1.2.1, s.2.2.1.2.2.1, s.2.2.1.2.2.2.1, s.2.2.1.2.2.2.2.1, xs_u s.2.2.1.2.2.2.2.2 q [])
            let O2 : xs_O := xs_of (xs_nO O1 1 q 1).2 (6 * p + d) (some (xs_nO O1 1 q 1).1)
            let O3 : xs_O := xs_of (xs_nO O2 2 q 2).2 (6 * p + e) (some (xs_nO O2 2 q 2).1)
            (nI (d + 8 * e), (s.1, s.2.1, O3, s.2.2.2))
def xs_pos (O : xs_O) (o v : Nat) : xs_O := (O.1, O.2.1, O.2.2.1, O.2.2.2.1, xs_u O.2.2.2.2.1 o v, O.2.2.2.2.2)
def xs_pip (O : xs_O) (q : Nat) (l : List Int32) : xs_O := (O.1, O.2.1, O.2.2.1, O.2.2.2.1, O.2.2.2.2.1, xs_u O.2.2.2.2.2 q l)
def xs_read (s : xs_S) (a b : Int32) : Int32 × xs_S := match xs_desc s a b with
  | .inl e => (e, s)
  | .inr (_, _, o) =>
    if s.2.2.1.2.2.2.1 o % 2 = 0 then (-3, s)
    else if s.2.2.1.2.1 o = 1 then (match s.2.2.1.2.2.2.2.2 (s.2.2.1.2.2.1 o) with
      | [] => (if xs_end s.2.2.1 (s.2.2.1.2.2.1 o) 2 = true then -6 else -7, s)
      | x :: l => (x, (s.1, s.2.1, xs_pip s.2.2.1 (s.2.2.1.2.2.1 o) l, s.2.2.2)))
    else if s.1.2.1 (s.2.2.1.2.2.1 o) ≤ s.2.2.1.2.2.2.2.1 o then (-7, s)
    else if (xs_get s.1 (s.2.2.1.2.2.1 o) (s.2.2.1.2.2.2.2.1 o / 8)).2 = true then
      ((match (xs_get s.1 (s.2.2.1.2.2.1 o) (s.2.2.1.2.2.2.2.1 o / 8)).1.2.2 with
        | [] => 0
        | x :: _ => x.2.2.2 (s.2.2.1.2.2.2.2.1 o % 8)), ((xs_get s.1 (s.2.2.1.2.2.1 o) (s.2.2.1.2.2.2.2.1 o / 8)).1, s.2.1, xs_pos s.2.2.1 o (s.2.2.1.2.2.2.2.1 o + 1), s.2.2.2))
    else (-8, ((xs_get s.1 (s.2.2.1.2.2.1 o) (s.2.2.1.2.2.2.2.1 o / 8)).1, s.2))
/-- the last used block has a cell, and is dirty -/
def xs_cell (F : xs_F) (k : Nat) (v : Int32) : xs_F := (F.1, F.2.1, match F.2.2 with
  | [] => []
  | x :: l => (x.1, x.2.1, true, xs_u x.2.2.2 k v) :: l)
def xs_write (s : xs_S) (a b c : Int32) : Int32 × xs_S := match xs_nat c 256 with
  | none => (-1, s)
  | some v => match xs_desc s a b with
    | .inl e => (e, s)
    | .inr (_, _, o) =>
      if s.2.2.1.2.2.2.1 o / 2 % 2 = 0 then (-3, s)
      else if s.2.2.1.2.1 o = 2 then
        (if xs_end s.2.2.1 (s.2.2.1.2.2.1 o) 1 = false then (-7, s)
        else if (s.2.2.1.2.2.2.2.2 (s.2.2.1.2.2.1 o)).length = 4 then (-6, s)
        else (1, (s.1, s.2.1, xs_pip s.2.2.1 (s.2.2.1.2.2.1 o) (s.2.2.1.2.2.2.2.2 (s.2.2.1.2.2.1 o) ++ [nI v]), s.2.2.2)))
      else
        let f := s.2.2.1.2.2.1 o
        let at_ := if s.2.2.1.2.2.2.1 o / 4 % 2 = 1 then s.1.2.1 f else s.2.2.1.2.2.2.2.1 o
        if at_ = 32 then (-2, s)
        else if (xs_get s.1 f (at_ / 8)).2 = true then
          (1, (xs_len (xs_cell (xs_get s.1 f (at_ / 8)).1 (at_ % 8) (nI v)) f (max (s.1.2.1 f) (at_ + 1)), s.2.1, xs_pos s.2.2.1 o (at_ + 1), s.2.2.2))
        else (-8, ((xs_get s.1 f (at_ / 8)).1, s.2))
def xs_seek (s : xs_S) (a b c : Int32) : Int32 × xs_S := match xs_nat c 33 with
  | none => (-1, s)
  | some v => match xs_desc s a b with
    | .inl e => (e, s)
    | .inr (_, _, o) => if s.2.2.1.2.1 o ≠ 0 then (-3, s)
      else if s.1.2.1 (s.2.2.1.2.2.1 o) < v then (-1, s)
      else (nI v, (s.1, s.2.1, xs_pos s.2.2.1 o v, s.2.2.2))
def xs_sync (s : xs_S) (a b : Int32) : Int32 × xs_S := match xs_desc s a b with
  | .inl e => (e, s)
  | .inr (_, _, o) => if s.2.2.1.2.1 o ≠ 0 then (-3, s)
    else ((xs_sy (s.2.2.1.2.2.1 o) 4 0 s.1).1, ((xs_sy (s.2.2.1.2.2.1 o) 4 0 s.1).2, s.2))
def xs_dup (s : xs_S) (a b : Int32) : Int32 × xs_S := match xs_desc s a b with
  | .inl e => (e, s)
  | .inr (p, _, o) => match xs_free s.2.2.1 p 0 with
    | none => (-2, s)
    | some d => (nI d, (s.1, s.2.1, xs_of s.2.2.1 (6 * p + d) (some o), s.2.2.2))
def xs_close (s : xs_S) (a b : Int32) : Int32 × xs_S := match xs_desc s a b with
  | .inl e => (e, s)
  | .inr (p, d, _) => (0, (s.1, s.2.1, xs_of s.2.2.1 (6 * p + d) none, s.2.2.2))
def xs_unlink (s : xs_S) (a b : Int32) : Int32 × xs_S := match xs_alive s.2.2.2 a, xs_nat b 8 with
  | some _, some f => if s.2.1 f = 0 ∨ s.1.1.1 f = false then (-4, s)
    else if s.2.1 f = 1 then (-5, s)
    else if xs_openF s.2.2.1 f = true then (-9, s)
    else if (xs_op s.1.1 4 f 0).2 = true then (0, (xs_drop (xs_there (xs_op s.1.1 4 f 0).1 f false, s.1.2) f, s.2))
    else (-8, (((xs_op s.1.1 4 f 0).1, s.1.2), s.2))
  | _, _ => (-1, s)
/-- descriptors of a process from another's -/
def xs_share (O : xs_O) (p q : Nat) : xs_O := (fun k => if 6 * p ≤ k ∧ k < 6 * p + 6 then O.1 (6 * q + (k - 6 * p)) else O.1 k, O.2)
def xs_fork (s : xs_S) (a : Int32) : Int32 × xs_S := match xs_alive s.2.2.2 a with
  | none => (-1, s)
  | some p => match xs_least (fun q => decide (s.2.2.2.1 q = 0)) 1 6 with
    | none => (-2, s)
    | some q => (nI q, (s.1, s.2.1, xs_share s.2.2.1 q p, xs_u s.2.2.2.1 q 1, xs_u s.2.2.2.2.1 q p, s.2.2.2.2.2))
def xs_bare (O : xs_O) (p : Nat) : xs_O := (fun k => if 6 * p ≤ k ∧ k < 6 * p + 6 then none else O.1 k, O.2)
def xs_exit (s : xs_S) (a b : Int32) : Int32 × xs_S := match xs_alive s.2.2.2 a, xs_nat b 100 with
  | some p, some c => if p = 1 then (-1, s)
    else (0, (s.1, s.2.1, xs_bare s.2.2.1 p, xs_u s.2.2.2.1 p 2, (fun q => if 2 ≤ q ∧ s.2.2.2.1 q ≠ 0 ∧ s.2.2.2.2.1 q = p then 1 else s.2.2.2.2.1 q), xs_u s.2.2.2.2.2 p c))
  | _, _ => (-1, s)
def xs_wait (s : xs_S) (a : Int32) : Int32 × xs_S := match xs_alive s.2.2.2 a with
  | none => (-1, s)
  | some p => match xs_least (fun q => decide (s.2.2.2.1 q = 2 ∧ s.2.2.2.2.1 q = p)) 2 5 with
    | some q => (nI (q + 8 * s.2.2.2.2.2 q), (s.1, s.2.1, s.2.2.1, xs_u s.2.2.2.1 q 0, s.2.2.2.2))
    | none => match xs_least (fun q => decide (s.2.2.2.1 q ≠ 0 ∧ s.2.2.2.2.1 q = p)) 2 5 with
      | some _ => (-6, s)
      | none => (-9, s)
def xs_crash (s : xs_S) : Int32 × xs_S := (0, ((s.1.1, s.1.1.2.1, []), s.2.1, (fun _ => none, s.2.2.1.2), (fun q => if q = 1 then 1 else 0), s.2.2.2.2))
def xs_host (s : xs_S) (a b : Int32) : Int32 := match xs_nat a 8 with
  | none => -1
  | some f => if s.1.1.1 f = false then -4
    else match xs_nat b (s.1.1.2.1 f) with
      | none => -7
      | some i => s.1.1.2.2.1 f i
def xs_log (s : xs_S) (a : Int32) : Int32 := match xs_nat a (min s.1.1.2.2.2.2.1 16) with
  | none => -1
  | some i => s.1.1.2.2.2.1 i
def xs_cached (s : xs_S) (a : Int32) : Int32 := match xs_nat a s.1.2.2.length with
  | none => -1
  | some i => match s.1.2.2[i]? with
    | none => -1
    | some x => nI (x.1 + 8 * x.2.1 + (if x.2.2.1 = true then 32 else 0))
def xs_count (s : xs_S) (a : Int32) : Int32 := match xs_nat a 5 with
  | some 0 => nI s.1.1.2.2.2.2.1
  | some 1 => nI (xs_ops s.2.2.1)
  | some 2 => nI (xs_num (fun q => decide (1 ≤ q ∧ s.2.2.2.1 q ≠ 0)) 7)
  | some 3 => nI (s.1.2.2.countP (fun x => x.2.2.1))
  | some 4 => nI s.1.1.2.2.2.2.2
  | _ => -1
end
section
/-! small pure facts -/
theorem xs_nat_lt {x : Int32} {k : Nat} (h : x < 0) : xs_nat x k = none := by
  rw [Int32.lt_iff_toInt_lt, Int32.toInt_zero] at h
  exact if_neg (fun q => by omega)
theorem xs_nat_ge {x : Int32} {k : Nat} (hk : k < 2 ^ 31) (h : nI k ≤ x) : xs_nat x k = none := by
  rw [Int32.le_iff_toInt_le, nI_toInt hk] at h
  exact if_neg (fun q => by omega)
theorem xs_nat_nI {f k : Nat} (hf : f < k) (hk : k < 2 ^ 31) : xs_nat (nI f) k = some f := by
  unfold xs_nat
  rw [nI_toInt (by omega), if_pos ⟨by omega, by omega⟩]
  rfl
theorem xs_nat_in {x : Int32} {k : Nat} (hk : k < 2 ^ 31) (h0 : ¬ x < 0) (h : ¬ nI k ≤ x) : ∃ f, f < k ∧ x = nI f ∧ xs_nat x k = some f := by
  obtain ⟨j, hj, rfl⟩ := nI_of h0
  have hjk : j < k := Nat.lt_of_not_le (fun q => h (nI_le q hj))
  exact ⟨j, hjk, rfl, xs_nat_nI hjk hk⟩
theorem xs_bi_b (b : Bool) : narrow .boolean (.int (xs_bi b)) = .int (xs_bi b) := by cases b <;> rfl
theorem xs_bi_0 {b : Bool} (h : xs_bi b = nI 0) : b = false := by
  cases b
  · rfl
  · exact absurd h (by decide)
theorem xs_bi_z {b : Bool} : xs_bi b = 0 ↔ b = false := by
  cases b
  · exact ⟨fun _ => rfl, fun _ => by decide⟩
  · exact ⟨fun h => absurd h (by decide), fun h => by cases h⟩
theorem xs_btw {x : Int32} {lo hi : Nat} (hlo : lo < 2 ^ 30) (hhi : hi < 2 ^ 30) (h1 : ¬ x < nI lo) (h2 : ¬ nI hi < x) : ∃ f, lo ≤ f ∧ f ≤ hi ∧ x = nI f := by
  rw [Int32.lt_iff_toInt_lt, nI_toInt (by omega)] at h1 h2
  have h0 : ¬ x < 0 := by rw [Int32.lt_iff_toInt_lt, Int32.toInt_zero]; omega
  obtain ⟨j, hj, rfl⟩ := nI_of h0
  rw [nI_toInt hj] at h1 h2
  exact ⟨j, by omega, by omega, rfl⟩
end
section
/-! where things lie: the references that never change, and the cells by number -/
def xr_st (a k : Nat) : Option Nat :=
  bif Nat.beq a 1 then [2, 7, 20, 21, 38][k]? else bif Nat.beq a 2 then [3, 4, 5, 6][k]? else bif Nat.beq a 7 then [2, 8, 9][k]?
  else bif Nat.beq a 21 then (bif Nat.blt k 16 then some (22 + k) else none) else bif Nat.beq a 38 then (bif Nat.blt k 7 then some (39 + 2 * k) else none)
  else bif Nat.beq a 53 then (bif Nat.blt k 8 then some (54 + k) else bif Nat.blt k 9 then none else bif Nat.blt k 20 then some (53 + k) else bif Nat.beq k 22 then some 73 else none)
  else bif (Nat.ble 10 a && Nat.blt a 20 && Nat.beq (a % 2) 0 && Nat.beq k 3) then some (a + 1)
  else bif (Nat.ble 39 a && Nat.blt a 53 && Nat.beq (a % 2) 1 && Nat.beq k 3) then some (a + 1)
  else bif (Nat.ble 74 a && Nat.beq (a % 2) 0 && Nat.beq k 0) then some (a + 1) else none
def xr_S (r : xk_P) (n : Nat) : Prop := ∀ a k v, xr_st a k = some v → a < n → r a k = some v
theorem xr_S.up {r : xk_P} {n a k : Nat} {v : Option Nat} (h : xr_S r n) (h0 : xr_st a k = none) : xr_S (xk_up r a k v) n := by
  intro b j w hw hb
  unfold xk_up
  by_cases hq : b = a ∧ j = k
  · obtain ⟨rfl, rfl⟩ := hq
    rw [h0] at hw
    cases hw
  · rw [if_neg hq]
    exact h b j w hw hb
theorem xr_kd_blk : ∀ j, j < 5 → xk_kd (10 + 2 * j) = .inl 0 := by decide
theorem xr_kd_bc : ∀ j, j < 5 → xk_kd (11 + 2 * j) = .inr (0, 8) := by decide
theorem xr_kd_op : ∀ j, j < 16 → xk_kd (22 + j) = .inl 3 := by decide
theorem xr_kd_ta : ∀ j, j < 7 → xk_kd (39 + 2 * j) = .inl 5 := by decide
theorem xr_kd_de : ∀ j, j < 7 → xk_kd (40 + 2 * j) = .inr (3, 6) := by decide
theorem xr_st_blk : ∀ j, j < 5 → xr_st (10 + 2 * j) 3 = some (11 + 2 * j) := by decide
theorem xr_st_op : ∀ j, j < 16 → xr_st 21 j = some (22 + j) := by decide
theorem xr_st_ts : ∀ j, j < 7 → xr_st 38 j = some (39 + 2 * j) := by decide
theorem xr_st_ta : ∀ j, j < 7 → xr_st (39 + 2 * j) 3 = some (40 + 2 * j) := by decide
theorem xr_0_9 : ∀ k, k < 5 → xr_st 9 k = none := by decide
theorem xr_0_op : ∀ j, j < 16 → xr_st (22 + j) 4 = none := by decide
theorem xr_0_de : ∀ j, j < 7 → ∀ k, k < 6 → xr_st (40 + 2 * j) k = none := by decide
theorem xr_kd_pi {a : Nat} (h : 74 ≤ a) (h2 : a % 2 = 0) : xk_kd a = .inl 4 := by
  have h1 : Nat.blt a 74 = false := by
    cases hb : Nat.blt a 74 with
    | false => rfl
    | true => have := Nat.le_of_ble_eq_true hb; omega
  unfold xk_kd
  rw [h1, h2]
  rfl
theorem xr_kd_pc {a : Nat} (h : 74 ≤ a) (h2 : a % 2 = 1) : xk_kd a = .inr (0, 4) := by
  have h1 : Nat.blt a 74 = false := by
    cases hb : Nat.blt a 74 with
    | false => rfl
    | true => have := Nat.le_of_ble_eq_true hb; omega
  unfold xk_kd
  rw [h1, h2]
  rfl
theorem xr_beq {a b : Nat} (h : a ≠ b) : Nat.beq a b = false := by
  cases hb : Nat.beq a b with
  | false => rfl
  | true => exact absurd (Nat.eq_of_beq_eq_true hb) h
theorem xr_blt {a b : Nat} (h : b ≤ a) : Nat.blt a b = false := by
  cases hb : Nat.blt a b with
  | false => rfl
  | true => have := Nat.le_of_ble_eq_true hb; omega
theorem xr_st_pi {a : Nat} (h : 74 ≤ a) (h2 : a % 2 = 0) : xr_st a 0 = some (a + 1) := by
  unfold xr_st
  rw [xr_beq (by omega : a ≠ 1), xr_beq (by omega : a ≠ 2), xr_beq (by omega : a ≠ 7), xr_beq (by omega : a ≠ 21), xr_beq (by omega : a ≠ 38), xr_beq (by omega : a ≠ 53), xr_blt (by omega : 20 ≤ a), xr_blt (by omega : 53 ≤ a), Nat.ble_eq_true_of_le h, h2]
  simp
end
section
set_option maxRecDepth 20000 in
set_option maxHeartbeats 4000000 in
theorem c_K_isBelow {E : xk_E} {n : Nat} {m : xk_M} {r : xk_P} {Q : xk_Q} {x : Int32} {k : Nat} (hk : k < 2 ^ 31) (h1 : ∀ f, f < k → x = nI f → xs_nat x k = some f → Q (some (.inl (nI 1))) n m r) (h0 : xs_nat x k = none → Q (some (.inl (nI 0))) n m r) : xk_W E m_K_isBelow 0 (xk_ent m_K_isBelow [.inl x, .inl (nI k)]) [] n m r 0 0 Q := by
  show xk_W E m_K_isBelow 0 [some (.inl x), some (.inl (nI k))] [] n m r 0 0 Q
  refine xk_iload_n (pc := 0) d_K_isBelow_0 rfl ?_
  refine xk_if_lt (pc := 1) (tgt := 13) d_K_isBelow_1 rfl (fun c_1 => ?_) (fun c_1 => ?_)
  · refine xk_iconst (pc := 13) (v := nI 0) d_K_isBelow_13 (by decide) ?_
    refine xk_zret (pc := 14) rfl d_K_isBelow_14 rfl rfl (Nat.le_of_ble_eq_true rfl) (Nat.le_of_ble_eq_true rfl) ?_
    first | exact h0 (xs_nat_lt c_1) | exact h0 (xs_nat_ge hk c_6)
  · refine xk_iload_n (pc := 4) d_K_isBelow_4 rfl ?_
    refine xk_iload_n (pc := 5) d_K_isBelow_5 rfl ?_
    first | refine xk_icmp_geN (pc := 6) (tgt := 13) d_K_isBelow_6 rfl (by omega) (by omega) (fun c_6 => ?_) (fun c_6 => ?_) | refine xk_icmp_ge (pc := 6) (tgt := 13) d_K_isBelow_6 rfl (fun c_6 => ?_) (fun c_6 => ?_)
    · refine xk_iconst (pc := 13) (v := nI 0) d_K_isBelow_13 (by decide) ?_
      refine xk_zret (pc := 14) rfl d_K_isBelow_14 rfl rfl (Nat.le_of_ble_eq_true rfl) (Nat.le_of_ble_eq_true rfl) ?_
      first | exact h0 (xs_nat_lt c_1) | exact h0 (xs_nat_ge hk c_6)
    · refine xk_iconst (pc := 9) (v := nI 1) d_K_isBelow_9 (by decide) ?_
      refine xk_goto (pc := 10) (tgt := 14) d_K_isBelow_10 rfl ?_
      refine xk_zret (pc := 14) rfl d_K_isBelow_14 rfl rfl (Nat.le_of_ble_eq_true rfl) (Nat.le_of_ble_eq_true rfl) ?_
      obtain ⟨f, f1, f2, f3⟩ := xs_nat_in hk c_1 c_6
      exact h1 f f1 f2 f3

set_option maxRecDepth 20000 in
set_option maxHeartbeats 4000000 in
theorem c_M_in {E : xk_E} {n : Nat} {m : xk_M} {r : xk_P} {Q : xk_Q} {x : Int32} {lo hi : Nat} (hhi : hi < 2 ^ 30) (hlo : lo < 2 ^ 30) (h1 : ∀ f, lo ≤ f → f ≤ hi → x = nI f → Q (some (.inl (nI 1))) n m r) (h0 : (x < nI lo ∨ nI hi < x) → Q (some (.inl (nI 0))) n m r) : xk_W E m_M_in 0 (xk_ent m_M_in [.inl x, .inl (nI lo), .inl (nI hi)]) [] n m r 0 0 Q := by
  show xk_W E m_M_in 0 [some (.inl x), some (.inl (nI lo)), some (.inl (nI hi))] [] n m r 0 0 Q
  refine xk_iload_n (pc := 0) d_M_in_0 rfl ?_
  refine xk_iload_n (pc := 1) d_M_in_1 rfl ?_
  first | refine xk_icmp_ltN (pc := 2) (tgt := 14) d_M_in_2 rfl (by omega) (by omega) (fun c_2 => ?_) (fun c_2 => ?_) | refine xk_icmp_lt (pc := 2) (tgt := 14) d_M_in_2 rfl (fun c_2 => ?_) (fun c_2 => ?_)
  · refine xk_iconst (pc := 14) (v := nI 0) d_M_in_14 (by decide) ?_
    refine xk_zret (pc := 15) rfl d_M_in_15 rfl rfl (Nat.le_of_ble_eq_true rfl) (Nat.le_of_ble_eq_true rfl) ?_
    first | exact h0 (Or.inl c_2) | exact h0 (Or.inr c_7)
  · refine xk_iload_n (pc := 5) d_M_in_5 rfl ?_
    refine xk_iload_n (pc := 6) d_M_in_6 rfl ?_
    first | refine xk_icmp_gtN (pc := 7) (tgt := 14) d_M_in_7 rfl (by omega) (by omega) (fun c_7 => ?_) (fun c_7 => ?_) | refine xk_icmp_gt (pc := 7) (tgt := 14) d_M_in_7 rfl (fun c_7 => ?_) (fun c_7 => ?_)
    · refine xk_iconst (pc := 14) (v := nI 0) d_M_in_14 (by decide) ?_
      refine xk_zret (pc := 15) rfl d_M_in_15 rfl rfl (Nat.le_of_ble_eq_true rfl) (Nat.le_of_ble_eq_true rfl) ?_
      first | exact h0 (Or.inl c_2) | exact h0 (Or.inr c_7)
    · refine xk_iconst (pc := 10) (v := nI 1) d_M_in_10 (by decide) ?_
      refine xk_goto (pc := 11) (tgt := 15) d_M_in_11 rfl ?_
      refine xk_zret (pc := 15) rfl d_M_in_15 rfl rfl (Nat.le_of_ble_eq_true rfl) (Nat.le_of_ble_eq_true rfl) ?_
      obtain ⟨f, f1, f2, f3⟩ := xs_btw hlo hhi c_2 c_7
      exact h1 f f1 f2 f3

def xk_fill (m : xk_M) (a p q : Nat) (v : Int32) : xk_M := fun c j => if c = a ∧ p ≤ j ∧ j < q then v else m c j
theorem xk_fill_0 {m : xk_M} {a p : Nat} {v : Int32} : xk_fill m a p p v = m := by
  funext c j
  unfold xk_fill
  rw [if_neg (by omega)]
theorem xk_fill_s {m : xk_M} {a p i : Nat} {v : Int32} (h : p ≤ i) : xk_up (xk_fill m a p i v) a i v = xk_fill m a p (i + 1) v := by
  funext c j
  unfold xk_up xk_fill
  by_cases h1 : c = a ∧ j = i
  · rw [if_pos h1, if_pos ⟨h1.1, by omega, by omega⟩]
  · rw [if_neg h1]
    by_cases h2 : c = a ∧ p ≤ j ∧ j < i
    · rw [if_pos h2, if_pos ⟨h2.1, h2.2.1, by omega⟩]
    · rw [if_neg h2, if_neg (fun q => h2 ⟨q.1, q.2.1, by
        have : ¬ j = i := fun e => h1 ⟨q.1, e⟩
        omega⟩)]

set_option maxRecDepth 20000 in
set_option maxHeartbeats 4000000 in
theorem c_Arr_rangeCheck {E : xk_E} {n : Nat} {m : xk_M} {r : xk_P} {Q : xk_Q} {a b d : Nat} (h1 : b ≤ d) (h2 : d ≤ a) (h3 : a < 2 ^ 30) (hQ : Q none n m r) : xk_W E m_Arr_rangeCheck 0 (xk_ent m_Arr_rangeCheck [.inl (nI a), .inl (nI b), .inl (nI d)]) [] n m r 0 0 Q := by
  show xk_W E m_Arr_rangeCheck 0 [some (.inl (nI a)), some (.inl (nI b)), some (.inl (nI d))] [] n m r 0 0 Q
  refine xk_iload_n (pc := 0) d_Arr_rangeCheck_0 rfl ?_
  refine xk_iload_n (pc := 1) d_Arr_rangeCheck_1 rfl ?_
  first | refine xk_icmp_leN (pc := 2) (tgt := 46) d_Arr_rangeCheck_2 rfl (by omega) (by omega) (fun c_2 => ?_) (fun c_2 => ?_) | refine xk_icmp_le (pc := 2) (tgt := 46) d_Arr_rangeCheck_2 rfl (fun c_2 => ?_) (fun c_2 => ?_)
  · refine xk_iload_n (pc := 46) d_Arr_rangeCheck_46 rfl ?_
    refine xk_if_geN (pc := 47) (tgt := 59) d_Arr_rangeCheck_47 rfl (by omega) ?_
    refine xk_iload_n (pc := 59) d_Arr_rangeCheck_59 rfl ?_
    refine xk_iload_n (pc := 60) d_Arr_rangeCheck_60 rfl ?_
    first | refine xk_icmp_leN (pc := 61) (tgt := 73) d_Arr_rangeCheck_61 rfl (by omega) (by omega) (fun c_61 => ?_) (fun c_61 => ?_) | refine xk_icmp_le (pc := 61) (tgt := 73) d_Arr_rangeCheck_61 rfl (fun c_61 => ?_) (fun c_61 => ?_)
    · refine xk_vret (pc := 73) rfl d_Arr_rangeCheck_73 rfl (Nat.le_of_ble_eq_true rfl) (Nat.le_of_ble_eq_true rfl) ?_
      exact hQ
    · exact absurd c_61 (by omega)
  · exact absurd c_2 (by omega)

set_option maxRecDepth 20000 in
set_option maxHeartbeats 4000000 in
theorem l_fill4 {E : xk_E} {n : Nat} {r : xk_P} {Q : xk_Q} {m : xk_M} {a len p q : Nat} {v : Int32} (hk0 : xk_kd a = .inr (0, len)) (ha : 1 ≤ a) (han : a < n) (hq : q ≤ len) (hlen : len < 2 ^ 20) (hQ : Q none n (xk_fill m a p q v) r) : ∀ (k : Nat) (i : Nat), q - i < k → p ≤ i → i ≤ q → xk_W E m_Arr_fill4 10 [some (.inr (some a)), some (.inl (nI p)), some (.inl (nI q)), some (.inl v), some (.inl (nI i))] [] n (xk_fill m a p i v) r 0 0 Q := by
  intro k
  induction k with
  | zero => intro i h; exact absurd h (Nat.not_lt_zero _)
  | succ k ih =>
    intro i hk h1 h2
    refine xk_iload (pc := 10) d_Arr_fill4_10 rfl ?_
    refine xk_iload_n (pc := 12) d_Arr_fill4_12 rfl ?_
    first | refine xk_icmp_geN (pc := 13) (tgt := 27) d_Arr_fill4_13 rfl (by omega) (by omega) (fun c_13 => ?_) (fun c_13 => ?_) | refine xk_icmp_ge (pc := 13) (tgt := 27) d_Arr_fill4_13 rfl (fun c_13 => ?_) (fun c_13 => ?_)
    · have e : i = q := by omega
      subst e
      refine xk_vret (pc := 27) rfl d_Arr_fill4_27 rfl (Nat.le_of_ble_eq_true rfl) (Nat.le_of_ble_eq_true rfl) ?_
      exact hQ
    · refine xk_aload_n (pc := 16) d_Arr_fill4_16 rfl ?_
      refine xk_iload (pc := 17) d_Arr_fill4_17 rfl ?_
      refine xk_iload_n (pc := 19) d_Arr_fill4_19 rfl ?_
      refine xk_iastore (pc := 20) d_Arr_fill4_20 hk0 (by omega) (by omega) rfl (by omega) (by omega) ?_
      rw [xk_fill_s (by omega)]
      refine xk_iincN (pc := 21) (d := 1) d_Arr_fill4_21 rfl ?_
      refine xk_goto (pc := 24) (tgt := 10) d_Arr_fill4_24 rfl ?_
      exact ih (i + 1) (by omega) (by omega) (by omega)

set_option maxRecDepth 20000 in
set_option maxHeartbeats 4000000 in
theorem c_Arr_fill4 {E : xk_E} {n : Nat} {m : xk_M} {r : xk_P} {Q : xk_Q} {a len p q : Nat} {v : Int32} (hk0 : xk_kd a = .inr (0, len)) (ha : 1 ≤ a) (han : a < n) (hpq : p ≤ q) (hq : q ≤ len) (hlen : len < 2 ^ 20) (hQ : Q none n (xk_fill m a p q v) r) : xk_W E m_Arr_fill4 0 (xk_ent m_Arr_fill4 [.inr (some a), .inl (nI p), .inl (nI q), .inl v]) [] n m r 0 0 Q := by
  show xk_W E m_Arr_fill4 0 [some (.inr (some a)), some (.inl (nI p)), some (.inl (nI q)), some (.inl v), none] [] n m r 0 0 Q
  refine xk_aload_n (pc := 0) d_Arr_fill4_0 rfl ?_
  refine xk_alen (pc := 1) d_Arr_fill4_1 hk0 (by omega) (by omega) (by omega) ?_
  refine xk_iload_n (pc := 2) d_Arr_fill4_2 rfl ?_
  refine xk_iload_n (pc := 3) d_Arr_fill4_3 rfl ?_
  refine xk_cS3 (pc := 4) d_Arr_fill4_4 ml_Arr_13 cz_Arr_rangeCheck ⟨rfl, rfl⟩ rfl (Nat.le_of_ble_eq_true rfl) ⟨(Nat.le_of_ble_eq_true rfl), (Nat.le_of_ble_eq_true rfl)⟩ ?_
  refine c_Arr_rangeCheck hpq hq (by omega) ?_
  refine xk_iload_n (pc := 7) d_Arr_fill4_7 rfl ?_
  refine xk_istore (pc := 8) d_Arr_fill4_8 (by decide) ?_
  have K := l_fill4 (E := E) (p := p) hk0 ha han hq hlen hQ (q - p + 1) p (by omega) (by omega) (by omega)
  rw [xk_fill_0] at K
  exact K

set_option maxRecDepth 20000 in
set_option maxHeartbeats 4000000 in
theorem l_fill2 {E : xk_E} {n : Nat} {r : xk_P} {Q : xk_Q} {m : xk_M} {a len : Nat} {v : Int32} (hk0 : xk_kd a = .inr (0, len)) (ha : 1 ≤ a) (han : a < n) (hlen : len < 2 ^ 20) (hQ : Q none n (xk_fill m a 0 len v) r) : ∀ (k : Nat) (i : Nat), len - i < k → i ≤ len → xk_W E m_Arr_fill2 5 [some (.inr (some a)), some (.inl v), some (.inl (nI i)), some (.inl (nI len))] [] n (xk_fill m a 0 i v) r 0 0 Q := by
  intro k
  induction k with
  | zero => intro i h; exact absurd h (Nat.not_lt_zero _)
  | succ k ih =>
    intro i hk h2
    refine xk_iload_n (pc := 5) d_Arr_fill2_5 rfl ?_
    refine xk_iload_n (pc := 6) d_Arr_fill2_6 rfl ?_
    first | refine xk_icmp_geN (pc := 7) (tgt := 20) d_Arr_fill2_7 rfl (by omega) (by omega) (fun c_7 => ?_) (fun c_7 => ?_) | refine xk_icmp_ge (pc := 7) (tgt := 20) d_Arr_fill2_7 rfl (fun c_7 => ?_) (fun c_7 => ?_)
    · have e : i = len := by omega
      subst e
      refine xk_vret (pc := 20) rfl d_Arr_fill2_20 rfl (Nat.le_of_ble_eq_true rfl) (Nat.le_of_ble_eq_true rfl) ?_
      exact hQ
    · refine xk_aload_n (pc := 10) d_Arr_fill2_10 rfl ?_
      refine xk_iload_n (pc := 11) d_Arr_fill2_11 rfl ?_
      refine xk_iload_n (pc := 12) d_Arr_fill2_12 rfl ?_
      refine xk_iastore (pc := 13) d_Arr_fill2_13 hk0 (by omega) (by omega) rfl (by omega) (by omega) ?_
      rw [xk_fill_s (by omega)]
      refine xk_iincN (pc := 14) (d := 1) d_Arr_fill2_14 rfl ?_
      refine xk_goto (pc := 17) (tgt := 5) d_Arr_fill2_17 rfl ?_
      exact ih (i + 1) (by omega) (by omega)

set_option maxRecDepth 20000 in
set_option maxHeartbeats 4000000 in
theorem c_Arr_fill2 {E : xk_E} {n : Nat} {m : xk_M} {r : xk_P} {Q : xk_Q} {a len : Nat} {v : Int32} (hk0 : xk_kd a = .inr (0, len)) (ha : 1 ≤ a) (han : a < n) (hlen : len < 2 ^ 20) (hQ : Q none n (xk_fill m a 0 len v) r) : xk_W E m_Arr_fill2 0 (xk_ent m_Arr_fill2 [.inr (some a), .inl v]) [] n m r 0 0 Q := by
  show xk_W E m_Arr_fill2 0 [some (.inr (some a)), some (.inl v), none, none] [] n m r 0 0 Q
  refine xk_iconst (pc := 0) (v := nI 0) d_Arr_fill2_0 (by decide) ?_
  refine xk_istore_n (pc := 1) d_Arr_fill2_1 (by decide) ?_
  refine xk_aload_n (pc := 2) d_Arr_fill2_2 rfl ?_
  refine xk_alen (pc := 3) d_Arr_fill2_3 hk0 (by omega) (by omega) (by omega) ?_
  refine xk_istore_n (pc := 4) d_Arr_fill2_4 (by decide) ?_
  have K := l_fill2 (E := E) hk0 ha han hlen hQ (len + 1) 0 (by omega) (by omega)
  rw [xk_fill_0] at K
  exact K
end
section
set_option maxRecDepth 20000 in
set_option maxHeartbeats 4000000 in
theorem c_Host_isThere {E : xk_E} {n : Nat} {m : xk_M} {r : xk_P} {Q : xk_Q} (hn : 74 ≤ n) (hS : xr_S r n) {f : Nat} (hf : f < 8) {b : Bool} (hb : m 3 f = xs_bi b) (hQ : Q (some (.inl (xs_bi b))) n m r) : xk_W E m_Host_isThere 0 (xk_ent m_Host_isThere [.inr (some 2), .inl (nI f)]) [] n m r 0 0 Q := by
  show xk_W E m_Host_isThere 0 [some (.inr (some 2)), some (.inl (nI f))] [] n m r 0 0 Q
  refine xk_aload_n (pc := 0) d_Host_isThere_0 rfl ?_
  refine xk_getRo (pc := 1) d_Host_isThere_1 fl_Host_9 (by first | rfl | assumption) rfl (by omega) (by omega) (hS _ _ _ rfl (by omega)) ?_
  refine xk_iload_n (pc := 4) d_Host_isThere_4 rfl ?_
  refine xk_baloado (pc := 5) d_Host_isThere_5 (by first | rfl | assumption) (by omega) (by omega) rfl (by omega) (by decide) hb ?_
  refine xk_zret (pc := 6) rfl d_Host_isThere_6 rfl (xs_bi_b b) (Nat.le_of_ble_eq_true rfl) (Nat.le_of_ble_eq_true rfl) ?_
  exact hQ

set_option maxRecDepth 20000 in
set_option maxHeartbeats 4000000 in
theorem c_Host_lengthOf {E : xk_E} {n : Nat} {m : xk_M} {r : xk_P} {Q : xk_Q} (hn : 74 ≤ n) (hS : xr_S r n) {f : Nat} (hf : f < 8) (hQ : Q (some (.inl (m 4 f))) n m r) : xk_W E m_Host_lengthOf 0 (xk_ent m_Host_lengthOf [.inr (some 2), .inl (nI f)]) [] n m r 0 0 Q := by
  show xk_W E m_Host_lengthOf 0 [some (.inr (some 2)), some (.inl (nI f))] [] n m r 0 0 Q
  refine xk_aload_n (pc := 0) d_Host_lengthOf_0 rfl ?_
  refine xk_getRo (pc := 1) d_Host_lengthOf_1 fl_Host_15 (by first | rfl | assumption) rfl (by omega) (by omega) (hS _ _ _ rfl (by omega)) ?_
  refine xk_iload_n (pc := 4) d_Host_lengthOf_4 rfl ?_
  refine xk_iaload (pc := 5) d_Host_lengthOf_5 (by first | rfl | assumption) (by omega) (by omega) rfl (by omega) (by decide) ?_
  refine xk_iret (pc := 6) rfl d_Host_lengthOf_6 rfl (Nat.le_of_ble_eq_true rfl) (Nat.le_of_ble_eq_true rfl) ?_
  exact hQ

set_option maxRecDepth 20000 in
set_option maxHeartbeats 4000000 in
theorem c_Host_cellAt {E : xk_E} {n : Nat} {m : xk_M} {r : xk_P} {Q : xk_Q} (hn : 74 ≤ n) (hS : xr_S r n) {f i : Nat} (hf : f < 8) (hi : i < 32) (hQ : Q (some (.inl (m 5 (f * 32 + i)))) n m r) : xk_W E m_Host_cellAt 0 (xk_ent m_Host_cellAt [.inr (some 2), .inl (nI f), .inl (nI i)]) [] n m r 0 0 Q := by
  show xk_W E m_Host_cellAt 0 [some (.inr (some 2)), some (.inl (nI f)), some (.inl (nI i))] [] n m r 0 0 Q
  refine xk_aload_n (pc := 0) d_Host_cellAt_0 rfl ?_
  refine xk_getRo (pc := 1) d_Host_cellAt_1 fl_Host_19 (by first | rfl | assumption) rfl (by omega) (by omega) (hS _ _ _ rfl (by omega)) ?_
  refine xk_iload_n (pc := 4) d_Host_cellAt_4 rfl ?_
  refine xk_bipush (pc := 5) (v := nI 32) d_Host_cellAt_5 (by decide) ?_
  first | refine xk_imulN (pc := 7) d_Host_cellAt_7 ?_ | refine xk_imul (pc := 7) d_Host_cellAt_7 ?_
  refine xk_iload_n (pc := 8) d_Host_cellAt_8 rfl ?_
  first | refine xk_iaddN (pc := 9) d_Host_cellAt_9 ?_ | refine xk_iadd (pc := 9) d_Host_cellAt_9 ?_
  refine xk_iaload (pc := 10) d_Host_cellAt_10 (by first | rfl | assumption) (by omega) (by omega) rfl (by omega) (by decide) ?_
  refine xk_iret (pc := 11) rfl d_Host_cellAt_11 rfl (Nat.le_of_ble_eq_true rfl) (Nat.le_of_ble_eq_true rfl) ?_
  exact hQ

set_option maxRecDepth 20000 in
set_option maxHeartbeats 4000000 in
theorem c_Host_operations {E : xk_E} {n : Nat} {m : xk_M} {r : xk_P} {Q : xk_Q} (hn : 74 ≤ n) (hS : xr_S r n) (hQ : Q (some (.inl (m 2 4))) n m r) : xk_W E m_Host_operations 0 (xk_ent m_Host_operations [.inr (some 2)]) [] n m r 0 0 Q := by
  show xk_W E m_Host_operations 0 [some (.inr (some 2))] [] n m r 0 0 Q
  refine xk_aload_n (pc := 0) d_Host_operations_0 rfl ?_
  refine xk_getI (pc := 1) d_Host_operations_1 fl_Host_25 (by first | rfl | assumption) rfl (by omega) (by omega) ?_
  refine xk_iret (pc := 4) rfl d_Host_operations_4 rfl (Nat.le_of_ble_eq_true rfl) (Nat.le_of_ble_eq_true rfl) ?_
  exact hQ

set_option maxRecDepth 20000 in
set_option maxHeartbeats 4000000 in
theorem c_Host_leftToFail {E : xk_E} {n : Nat} {m : xk_M} {r : xk_P} {Q : xk_Q} (hn : 74 ≤ n) (hS : xr_S r n) (hQ : Q (some (.inl (m 2 5))) n m r) : xk_W E m_Host_leftToFail 0 (xk_ent m_Host_leftToFail [.inr (some 2)]) [] n m r 0 0 Q := by
  show xk_W E m_Host_leftToFail 0 [some (.inr (some 2))] [] n m r 0 0 Q
  refine xk_aload_n (pc := 0) d_Host_leftToFail_0 rfl ?_
  refine xk_getI (pc := 1) d_Host_leftToFail_1 fl_Host_29 (by first | rfl | assumption) rfl (by omega) (by omega) ?_
  refine xk_iret (pc := 4) rfl d_Host_leftToFail_4 rfl (Nat.le_of_ble_eq_true rfl) (Nat.le_of_ble_eq_true rfl) ?_
  exact hQ

set_option maxRecDepth 20000 in
set_option maxHeartbeats 4000000 in
theorem c_Host_setToFail {E : xk_E} {n : Nat} {m : xk_M} {r : xk_P} {Q : xk_Q} (hn : 74 ≤ n) (hS : xr_S r n) {x : Int32} (hQ : Q none n (xk_up m 2 5 x) r) : xk_W E m_Host_setToFail 0 (xk_ent m_Host_setToFail [.inr (some 2), .inl x]) [] n m r 0 0 Q := by
  show xk_W E m_Host_setToFail 0 [some (.inr (some 2)), some (.inl x)] [] n m r 0 0 Q
  refine xk_aload_n (pc := 0) d_Host_setToFail_0 rfl ?_
  refine xk_iload_n (pc := 1) d_Host_setToFail_1 rfl ?_
  refine xk_putI (pc := 2) d_Host_setToFail_2 fl_Host_29 (by first | rfl | assumption) rfl (fun q hq h => by cases hq; first | exact absurd h (by decide) | exact ⟨rfl, rfl, rfl⟩) ⟨rfl, rfl⟩ (by omega) (by omega) ?_
  refine xk_vret (pc := 5) rfl d_Host_setToFail_5 rfl (Nat.le_of_ble_eq_true rfl) (Nat.le_of_ble_eq_true rfl) ?_
  exact hQ

set_option maxRecDepth 20000 in
set_option maxHeartbeats 4000000 in
theorem c_Host_entryAt {E : xk_E} {n : Nat} {m : xk_M} {r : xk_P} {Q : xk_Q} (hn : 74 ≤ n) (hS : xr_S r n) {k i : Nat} (hk : m 2 4 = nI k) (hi : i < k) (hk2 : k < 2 ^ 30) (hQ : Q (some (.inl (m 6 ((k - 1 - i) % 16)))) n m r) : xk_W E m_Host_entryAt 0 (xk_ent m_Host_entryAt [.inr (some 2), .inl (nI i)]) [] n m r 0 0 Q := by
  show xk_W E m_Host_entryAt 0 [some (.inr (some 2)), some (.inl (nI i))] [] n m r 0 0 Q
  refine xk_aload_n (pc := 0) d_Host_entryAt_0 rfl ?_
  refine xk_getRo (pc := 1) d_Host_entryAt_1 fl_Host_22 (by first | rfl | assumption) rfl (by omega) (by omega) (hS _ _ _ rfl (by omega)) ?_
  refine xk_aload_n (pc := 4) d_Host_entryAt_4 rfl ?_
  refine xk_getIo (pc := 5) d_Host_entryAt_5 fl_Host_25 (by first | rfl | assumption) rfl (by omega) (by omega) hk ?_
  refine xk_iconst (pc := 8) (v := nI 1) d_Host_entryAt_8 (by decide) ?_
  first | refine xk_isubN (pc := 9) d_Host_entryAt_9 (by omega) ?_ | refine xk_isub (pc := 9) d_Host_entryAt_9 ?_
  refine xk_iload_n (pc := 10) d_Host_entryAt_10 rfl ?_
  first | refine xk_isubN (pc := 11) d_Host_entryAt_11 (by omega) ?_ | refine xk_isub (pc := 11) d_Host_entryAt_11 ?_
  refine xk_bipush (pc := 12) (v := nI 16) d_Host_entryAt_12 (by decide) ?_
  refine xk_iremN (pc := 14) d_Host_entryAt_14 (by decide) (by omega) (by decide) ?_
  refine xk_iaload (pc := 15) d_Host_entryAt_15 (by first | rfl | assumption) (by omega) (by omega) rfl (Nat.mod_lt _ (by decide)) (by decide) ?_
  refine xk_iret (pc := 16) rfl d_Host_entryAt_16 rfl (Nat.le_of_ble_eq_true rfl) (Nat.le_of_ble_eq_true rfl) ?_
  exact hQ

/-- the host of the class -/
def xr_H (h : xs_H) (m : xk_M) : Prop :=
  (∀ f, f < 8 → m 3 f = xs_bi (h.1 f)) ∧ (∀ f, f < 8 → m 4 f = nI (h.2.1 f)) ∧ (∀ f i, f < 8 → i < 32 → m 5 (f * 32 + i) = h.2.2.1 f i) ∧ (∀ j, j < 16 → j < h.2.2.2.2.1 → m 6 ((h.2.2.2.2.1 - 1 - j) % 16) = h.2.2.2.1 j) ∧ m 2 4 = nI h.2.2.2.2.1 ∧ m 2 5 = nI h.2.2.2.2.2
theorem xr_H_op {h : xs_H} {m m' : xk_M} {o f b : Nat} (hR : xr_H h m) (h3 : m' 3 = m 3) (h4 : m' 4 = m 4) (h5 : m' 5 = m 5) (h6 : ∀ j, j < 16 → m' 6 j = if j = h.2.2.2.2.1 % 16 then nI (o + 8 * f + 64 * b + (if h.2.2.2.2.2 = 0 then 0 else 256)) else m 6 j) (h24 : m' 2 4 = nI (h.2.2.2.2.1 + 1)) (h25 : m' 2 5 = nI (h.2.2.2.2.2 - 1)) : xr_H (xs_op h o f b).1 m' := by
  obtain ⟨r1, r2, r3, r4, r5, r6⟩ := hR
  refine ⟨fun f hf => by rw [h3]; exact r1 f hf, fun f hf => by rw [h4]; exact r2 f hf, fun f i hf hi => by rw [h5]; exact r3 f i hf hi, fun j hj hj2 => ?_, h24, h25⟩
  show m' 6 ((h.2.2.2.2.1 + 1 - 1 - j) % 16) = if j = 0 then _ else h.2.2.2.1 (j - 1)
  have hj3 : j < h.2.2.2.2.1 + 1 := hj2
  rw [h6 _ (Nat.mod_lt _ (by decide))]
  by_cases h0 : j = 0
  · subst h0
    rw [if_pos (by omega), if_pos rfl]
  · rw [if_neg (by omega), if_neg h0, ← r4 (j - 1) (by omega) (by omega)]
    congr 1
    omega

set_option maxRecDepth 20000 in
set_option maxHeartbeats 4000000 in
theorem c_Host_succeeds {E : xk_E} {n : Nat} {m : xk_M} {r : xk_P} {Q : xk_Q} (hn : 74 ≤ n) (hS : xr_S r n) {h : xs_H} {o f b : Nat} (hR : xr_H h m) (hops : h.2.2.2.2.1 < 2 ^ 30) (htf : h.2.2.2.2.2 < 2 ^ 30)
    (h1 : h.2.2.2.2.2 = 0 → ∀ m', xr_H (xs_op h o f b).1 m' → (∀ a, a ≠ 2 → a ≠ 6 → m' a = m a) → Q (some (.inl (nI 1))) n m' r) (h0 : h.2.2.2.2.2 ≠ 0 → ∀ m', xr_H (xs_op h o f b).1 m' → (∀ a, a ≠ 2 → a ≠ 6 → m' a = m a) → Q (some (.inl (nI 0))) n m' r) : xk_W E m_Host_succeeds 0 (xk_ent m_Host_succeeds [.inr (some 2), .inl (nI o), .inl (nI f), .inl (nI b)]) [] n m r 0 0 Q := by
  show xk_W E m_Host_succeeds 0 [some (.inr (some 2)), some (.inl (nI o)), some (.inl (nI f)), some (.inl (nI b)), none, none] [] n m r 0 0 Q
  refine xk_aload_n (pc := 0) d_Host_succeeds_0 rfl ?_
  refine xk_getIo (pc := 1) d_Host_succeeds_1 fl_Host_29 (by first | rfl | assumption) rfl (by omega) (by omega) hR.2.2.2.2.2 ?_
  first | refine xk_if_leN (pc := 4) (tgt := 11) d_Host_succeeds_4 rfl (by omega) (fun c_4 => ?_) (fun c_4 => ?_) | refine xk_if_le (pc := 4) (tgt := 11) d_Host_succeeds_4 rfl (fun c_4 => ?_) (fun c_4 => ?_)
  · refine xk_iconst (pc := 11) (v := nI 0) d_Host_succeeds_11 (by decide) ?_
    refine xk_istore (pc := 12) d_Host_succeeds_12 (by decide) ?_
    refine xk_iload_n (pc := 14) d_Host_succeeds_14 rfl ?_
    refine xk_bipush (pc := 15) (v := nI 8) d_Host_succeeds_15 (by decide) ?_
    refine xk_iload_n (pc := 17) d_Host_succeeds_17 rfl ?_
    first | refine xk_imulN (pc := 18) d_Host_succeeds_18 ?_ | refine xk_imul (pc := 18) d_Host_succeeds_18 ?_
    first | refine xk_iaddN (pc := 19) d_Host_succeeds_19 ?_ | refine xk_iadd (pc := 19) d_Host_succeeds_19 ?_
    refine xk_bipush (pc := 20) (v := nI 64) d_Host_succeeds_20 (by decide) ?_
    refine xk_iload_n (pc := 22) d_Host_succeeds_22 rfl ?_
    first | refine xk_imulN (pc := 23) d_Host_succeeds_23 ?_ | refine xk_imul (pc := 23) d_Host_succeeds_23 ?_
    first | refine xk_iaddN (pc := 24) d_Host_succeeds_24 ?_ | refine xk_iadd (pc := 24) d_Host_succeeds_24 ?_
    refine xk_istore (pc := 25) d_Host_succeeds_25 (by decide) ?_
    refine xk_aload_n (pc := 27) d_Host_succeeds_27 rfl ?_
    refine xk_getRo (pc := 28) d_Host_succeeds_28 fl_Host_22 (by first | rfl | assumption) rfl (by omega) (by omega) (hS _ _ _ rfl (by omega)) ?_
    refine xk_aload_n (pc := 31) d_Host_succeeds_31 rfl ?_
    refine xk_getIo (pc := 32) d_Host_succeeds_32 fl_Host_25 (by first | rfl | assumption) rfl (by omega) (by omega) hR.2.2.2.2.1 ?_
    refine xk_bipush (pc := 35) (v := nI 16) d_Host_succeeds_35 (by decide) ?_
    refine xk_iremN (pc := 37) d_Host_succeeds_37 (by decide) (by omega) (by decide) ?_
    refine xk_iload (pc := 38) d_Host_succeeds_38 rfl ?_
    refine xk_if_eq (pc := 40) (tgt := 52) d_Host_succeeds_40 rfl (fun _ => ?_) (fun h => absurd (by decide) h)
    refine xk_iload (pc := 52) d_Host_succeeds_52 rfl ?_
    refine xk_iastore (pc := 54) d_Host_succeeds_54 (by first | rfl | assumption) (by omega) (by omega) rfl (Nat.mod_lt _ (by decide)) (by decide) ?_
    refine xk_aload_n (pc := 55) d_Host_succeeds_55 rfl ?_
    refine xk_dup (pc := 56) d_Host_succeeds_56 ?_
    refine xk_getIo (pc := 57) d_Host_succeeds_57 fl_Host_25 (by first | rfl | assumption) rfl (by omega) (by omega) ((xk_up_a (by decide)).trans hR.2.2.2.2.1) ?_
    refine xk_iconst (pc := 60) (v := nI 1) d_Host_succeeds_60 (by decide) ?_
    first | refine xk_iaddN (pc := 61) d_Host_succeeds_61 ?_ | refine xk_iadd (pc := 61) d_Host_succeeds_61 ?_
    refine xk_putI (pc := 62) d_Host_succeeds_62 fl_Host_25 (by first | rfl | assumption) rfl (fun q hq h => by cases hq; first | exact absurd h (by decide) | exact ⟨rfl, rfl, rfl⟩) ⟨rfl, rfl⟩ (by omega) (by omega) ?_
    refine xk_iload (pc := 65) d_Host_succeeds_65 rfl ?_
    refine xk_if_eq (pc := 67) (tgt := 80) d_Host_succeeds_67 rfl (fun _ => ?_) (fun h => absurd (by decide) h)
    refine xk_iload (pc := 80) d_Host_succeeds_80 rfl ?_
    refine xk_if_ne (pc := 82) (tgt := 89) d_Host_succeeds_82 rfl (fun h => absurd (by decide) h) (fun _ => ?_)
    refine xk_iconst (pc := 85) (v := nI 1) d_Host_succeeds_85 (by decide) ?_
    refine xk_goto (pc := 86) (tgt := 90) d_Host_succeeds_86 rfl ?_
    refine xk_zret (pc := 90) rfl d_Host_succeeds_90 rfl rfl (Nat.le_of_ble_eq_true rfl) (Nat.le_of_ble_eq_true rfl) ?_
    refine h1 c_4 _ (xr_H_op hR ?_ ?_ ?_ ?_ ?_ ?_) (fun a h2 h6 => ?_)
    · funext j; simp [xk_up]
    · funext j; simp [xk_up]
    · funext j; simp [xk_up]
    · intro j hj; simp [xk_up, c_4]
    · simp [xk_up]
    · simp [xk_up, c_4]; rw [hR.2.2.2.2.2, c_4]
    · funext j; simp [xk_up, h2, h6]
  · refine xk_iconst (pc := 7) (v := nI 1) d_Host_succeeds_7 (by decide) ?_
    refine xk_goto (pc := 8) (tgt := 12) d_Host_succeeds_8 rfl ?_
    refine xk_istore (pc := 12) d_Host_succeeds_12 (by decide) ?_
    refine xk_iload_n (pc := 14) d_Host_succeeds_14 rfl ?_
    refine xk_bipush (pc := 15) (v := nI 8) d_Host_succeeds_15 (by decide) ?_
    refine xk_iload_n (pc := 17) d_Host_succeeds_17 rfl ?_
    first | refine xk_imulN (pc := 18) d_Host_succeeds_18 ?_ | refine xk_imul (pc := 18) d_Host_succeeds_18 ?_
    first | refine xk_iaddN (pc := 19) d_Host_succeeds_19 ?_ | refine xk_iadd (pc := 19) d_Host_succeeds_19 ?_
    refine xk_bipush (pc := 20) (v := nI 64) d_Host_succeeds_20 (by decide) ?_
    refine xk_iload_n (pc := 22) d_Host_succeeds_22 rfl ?_
    first | refine xk_imulN (pc := 23) d_Host_succeeds_23 ?_ | refine xk_imul (pc := 23) d_Host_succeeds_23 ?_
    first | refine xk_iaddN (pc := 24) d_Host_succeeds_24 ?_ | refine xk_iadd (pc := 24) d_Host_succeeds_24 ?_
    refine xk_istore (pc := 25) d_Host_succeeds_25 (by decide) ?_
    refine xk_aload_n (pc := 27) d_Host_succeeds_27 rfl ?_
    refine xk_getRo (pc := 28) d_Host_succeeds_28 fl_Host_22 (by first | rfl | assumption) rfl (by omega) (by omega) (hS _ _ _ rfl (by omega)) ?_
    refine xk_aload_n (pc := 31) d_Host_succeeds_31 rfl ?_
    refine xk_getIo (pc := 32) d_Host_succeeds_32 fl_Host_25 (by first | rfl | assumption) rfl (by omega) (by omega) hR.2.2.2.2.1 ?_
    refine xk_bipush (pc := 35) (v := nI 16) d_Host_succeeds_35 (by decide) ?_
    refine xk_iremN (pc := 37) d_Host_succeeds_37 (by decide) (by omega) (by decide) ?_
    refine xk_iload (pc := 38) d_Host_succeeds_38 rfl ?_
    refine xk_if_eq (pc := 40) (tgt := 52) d_Host_succeeds_40 rfl (fun h => absurd h (by decide)) (fun _ => ?_)
    refine xk_iload (pc := 43) d_Host_succeeds_43 rfl ?_
    refine xk_sipush (pc := 45) (v := nI 256) d_Host_succeeds_45 (by decide) ?_
    first | refine xk_iaddN (pc := 48) d_Host_succeeds_48 ?_ | refine xk_iadd (pc := 48) d_Host_succeeds_48 ?_
    refine xk_goto (pc := 49) (tgt := 54) d_Host_succeeds_49 rfl ?_
    refine xk_iastore (pc := 54) d_Host_succeeds_54 (by first | rfl | assumption) (by omega) (by omega) rfl (Nat.mod_lt _ (by decide)) (by decide) ?_
    refine xk_aload_n (pc := 55) d_Host_succeeds_55 rfl ?_
    refine xk_dup (pc := 56) d_Host_succeeds_56 ?_
    refine xk_getIo (pc := 57) d_Host_succeeds_57 fl_Host_25 (by first | rfl | assumption) rfl (by omega) (by omega) ((xk_up_a (by decide)).trans hR.2.2.2.2.1) ?_
    refine xk_iconst (pc := 60) (v := nI 1) d_Host_succeeds_60 (by decide) ?_
    first | refine xk_iaddN (pc := 61) d_Host_succeeds_61 ?_ | refine xk_iadd (pc := 61) d_Host_succeeds_61 ?_
    refine xk_putI (pc := 62) d_Host_succeeds_62 fl_Host_25 (by first | rfl | assumption) rfl (fun q hq h => by cases hq; first | exact absurd h (by decide) | exact ⟨rfl, rfl, rfl⟩) ⟨rfl, rfl⟩ (by omega) (by omega) ?_
    refine xk_iload (pc := 65) d_Host_succeeds_65 rfl ?_
    refine xk_if_eq (pc := 67) (tgt := 80) d_Host_succeeds_67 rfl (fun h => absurd h (by decide)) (fun _ => ?_)
    refine xk_aload_n (pc := 70) d_Host_succeeds_70 rfl ?_
    refine xk_dup (pc := 71) d_Host_succeeds_71 ?_
    refine xk_getIo (pc := 72) d_Host_succeeds_72 fl_Host_29 (by first | rfl | assumption) rfl (by omega) (by omega) ((xk_up_k (by decide)).trans ((xk_up_a (by decide)).trans hR.2.2.2.2.2)) ?_
    refine xk_iconst (pc := 75) (v := nI 1) d_Host_succeeds_75 (by decide) ?_
    first | refine xk_isubN (pc := 76) d_Host_succeeds_76 (by omega) ?_ | refine xk_isub (pc := 76) d_Host_succeeds_76 ?_
    refine xk_putI (pc := 77) d_Host_succeeds_77 fl_Host_29 (by first | rfl | assumption) rfl (fun q hq h => by cases hq; first | exact absurd h (by decide) | exact ⟨rfl, rfl, rfl⟩) ⟨rfl, rfl⟩ (by omega) (by omega) ?_
    refine xk_iload (pc := 80) d_Host_succeeds_80 rfl ?_
    refine xk_if_ne (pc := 82) (tgt := 89) d_Host_succeeds_82 rfl (fun _ => ?_) (fun h => absurd h (by decide))
    refine xk_iconst (pc := 89) (v := nI 0) d_Host_succeeds_89 (by decide) ?_
    refine xk_zret (pc := 90) rfl d_Host_succeeds_90 rfl rfl (Nat.le_of_ble_eq_true rfl) (Nat.le_of_ble_eq_true rfl) ?_
    have c_5 : h.2.2.2.2.2 ≠ 0 := by omega
    refine h0 c_5 _ (xr_H_op hR ?_ ?_ ?_ ?_ ?_ ?_) (fun a h2 h6 => ?_)
    · funext j; simp [xk_up]
    · funext j; simp [xk_up]
    · funext j; simp [xk_up]
    · intro j hj; simp [xk_up, c_5]
    · simp [xk_up]
    · simp [xk_up]
    · funext j; simp [xk_up, h2, h6]
end
section
def xk_fn (m : xk_M) (a p i : Nat) (g : Nat → Int32) : xk_M := fun c j => if c = a ∧ p ≤ j ∧ j < p + i then g (j - p) else m c j
theorem xk_fn_0 {m : xk_M} {a p : Nat} {g : Nat → Int32} : xk_fn m a p 0 g = m := by
  funext c j
  unfold xk_fn
  rw [if_neg (by omega)]
theorem xk_fn_a {m : xk_M} {a p i c j : Nat} {g : Nat → Int32} (h : c ≠ a) : xk_fn m a p i g c j = m c j := by
  unfold xk_fn
  rw [if_neg (fun q => h q.1)]
theorem xk_fn_s {m : xk_M} {a p i q : Nat} {g : Nat → Int32} (h : q = p + i) : xk_up (xk_fn m a p i g) a q (g i) = xk_fn m a p (i + 1) g := by
  subst h
  funext c j
  unfold xk_up xk_fn
  by_cases h1 : c = a ∧ j = p + i
  · rw [if_pos h1, if_pos ⟨h1.1, by omega, by omega⟩, h1.2, Nat.add_sub_cancel_left]
  · rw [if_neg h1]
    by_cases h2 : c = a ∧ p ≤ j ∧ j < p + i
    · rw [if_pos h2, if_pos ⟨h2.1, h2.2.1, by omega⟩]
    · rw [if_neg h2, if_neg (fun q => h2 ⟨q.1, q.2.1, by
        have : ¬ j = p + i := fun e => h1 ⟨q.1, e⟩
        omega⟩)]
theorem xk_fill_a {m : xk_M} {a p q c : Nat} {v : Int32} (h : c ≠ a) : xk_fill m a p q v c = m c := by
  funext j
  unfold xk_fill
  rw [if_neg (fun z => h z.1)]
theorem xs_minN {a b : Nat} (ha : a < 2 ^ 31) (hb : b < 2 ^ 31) : (if nI b < nI a then nI b else nI a) = nI (min a b) := by
  by_cases h : b < a
  · rw [if_pos (nI_lt h ha), Nat.min_eq_right (by omega)]
  · rw [if_neg (nI_nlt (by omega) hb), Nat.min_eq_left (by omega)]
theorem xs_maxN {a b : Nat} (ha : a < 2 ^ 31) (hb : b < 2 ^ 31) : (if nI a < nI b then nI b else nI a) = nI (max a b) := by
  by_cases h : a < b
  · rw [if_pos (nI_lt h hb), Nat.max_eq_right (by omega)]
  · rw [if_neg (nI_nlt (by omega) ha), Nat.max_eq_left (by omega)]
theorem xr_H_clear {h : xs_H} {m : xk_M} {f : Nat} (hR : xr_H h m) : xr_H (xs_clear h f) (xk_fill (xk_up m 4 f (nI 0)) 5 (f * 32) ((f + 1) * 32) (nI 0)) := by
  obtain ⟨r1, r2, r3, r4, r5, r6⟩ := hR
  refine ⟨fun g hg => ?_, fun g hg => ?_, fun g i hg hi => ?_, fun j hj hj2 => ?_, ?_, ?_⟩
  · rw [xk_fill_a (by decide), xk_up_a (by decide)]; exact r1 g hg
  · rw [xk_fill_a (by decide)]
    by_cases e : g = f
    · subst e; rw [xk_up_s]; show _ = nI (xs_u h.2.1 g 0 g); rw [xs_u_s]
    · rw [xk_up_k e, r2 g hg]; show _ = nI (xs_u h.2.1 f 0 g); rw [xs_u_n e]
  · show _ = xs_u h.2.2.1 f (fun _ => 0) g i
    unfold xk_fill
    by_cases e : g = f
    · subst e; rw [if_pos ⟨rfl, by omega, by omega⟩, xs_u_s]; rfl
    · rw [if_neg (by omega), xk_up_a (by decide), xs_u_n e]; exact r3 g i hg hi
  · rw [xk_fill_a (by decide), xk_up_a (by decide)]; exact r4 j hj hj2
  · rw [xk_fill_a (by decide), xk_up_a (by decide)]; exact r5
  · rw [xk_fill_a (by decide), xk_up_a (by decide)]; exact r6

set_option maxRecDepth 20000 in
set_option maxHeartbeats 4000000 in
theorem c_Host_clear {E : xk_E} {n : Nat} {m : xk_M} {r : xk_P} {Q : xk_Q} (hn : 74 ≤ n) (hS : xr_S r n) {h : xs_H} {f : Nat} (hR : xr_H h m) (hf : f < 8) (hQ : ∀ m', xr_H (xs_clear h f) m' → (∀ a, a ≠ 4 → a ≠ 5 → m' a = m a) → Q none n m' r) : xk_W E m_Host_clear 0 (xk_ent m_Host_clear [.inr (some 2), .inl (nI f)]) [] n m r 0 0 Q := by
  show xk_W E m_Host_clear 0 [some (.inr (some 2)), some (.inl (nI f))] [] n m r 0 0 Q
  refine xk_aload_n (pc := 0) d_Host_clear_0 rfl ?_
  refine xk_getRo (pc := 1) d_Host_clear_1 fl_Host_15 (by first | rfl | assumption) rfl (by omega) (by omega) (hS _ _ _ rfl (by omega)) ?_
  refine xk_iload_n (pc := 4) d_Host_clear_4 rfl ?_
  refine xk_iconst (pc := 5) (v := nI 0) d_Host_clear_5 (by decide) ?_
  refine xk_iastore (pc := 6) d_Host_clear_6 (by first | rfl | assumption) (by omega) (by omega) rfl (by omega) (by decide) ?_
  refine xk_aload_n (pc := 7) d_Host_clear_7 rfl ?_
  refine xk_getRo (pc := 8) d_Host_clear_8 fl_Host_19 (by first | rfl | assumption) rfl (by omega) (by omega) (hS _ _ _ rfl (by omega)) ?_
  refine xk_iload_n (pc := 11) d_Host_clear_11 rfl ?_
  refine xk_bipush (pc := 12) (v := nI 32) d_Host_clear_12 (by decide) ?_
  first | refine xk_imulN (pc := 14) d_Host_clear_14 ?_ | refine xk_imul (pc := 14) d_Host_clear_14 ?_
  refine xk_iload_n (pc := 15) d_Host_clear_15 rfl ?_
  refine xk_iconst (pc := 16) (v := nI 1) d_Host_clear_16 (by decide) ?_
  first | refine xk_iaddN (pc := 17) d_Host_clear_17 ?_ | refine xk_iadd (pc := 17) d_Host_clear_17 ?_
  refine xk_bipush (pc := 18) (v := nI 32) d_Host_clear_18 (by decide) ?_
  first | refine xk_imulN (pc := 20) d_Host_clear_20 ?_ | refine xk_imul (pc := 20) d_Host_clear_20 ?_
  refine xk_iconst (pc := 21) (v := nI 0) d_Host_clear_21 (by decide) ?_
  refine xk_cS4 (pc := 22) d_Host_clear_22 ml_Host_55 cz_Arr_fill4 ⟨rfl, rfl⟩ rfl (Nat.le_of_ble_eq_true rfl) ⟨(Nat.le_of_ble_eq_true rfl), (Nat.le_of_ble_eq_true rfl)⟩ ?_
  refine c_Arr_fill4 (len := 256) rfl (by omega) (by omega) (by omega) (by omega) (by decide) ?_
  refine xk_vret (pc := 25) rfl d_Host_clear_25 rfl (Nat.le_of_ble_eq_true rfl) (Nat.le_of_ble_eq_true rfl) ?_
  exact hQ _ (xr_H_clear hR) (fun a h4 h5 => by rw [xk_fill_a h5]; funext j; exact xk_up_a h4)

theorem xr_H_there {h : xs_H} {m : xk_M} {f : Nat} {b : Bool} (hR : xr_H h m) : xr_H (xs_there h f b) (xk_up m 3 f (xs_bi b)) := by
  obtain ⟨r1, r2, r3, r4, r5, r6⟩ := hR
  refine ⟨fun g hg => ?_, fun g hg => ?_, fun g i hg hi => ?_, fun j hj hj2 => ?_, ?_, ?_⟩
  · show _ = xs_bi (xs_u h.1 f b g)
    by_cases e : g = f
    · subst e; rw [xk_up_s, xs_u_s]
    · rw [xk_up_k e, xs_u_n e]; exact r1 g hg
  · rw [xk_up_a (by decide)]; exact r2 g hg
  · rw [xk_up_a (by decide)]; exact r3 g i hg hi
  · rw [xk_up_a (by decide)]; exact r4 j hj hj2
  · rw [xk_up_a (by decide)]; exact r5
  · rw [xk_up_a (by decide)]; exact r6
def xs_place (h : xs_H) (f l : Nat) (c : Int32) : xs_H := (xs_u h.1 f true, xs_u h.2.1 f l, xs_u h.2.2.1 f (fun i => if i < l then (c + nI (7 * i)) &&& nI 255 else 0), h.2.2.2)
theorem xr_H_place {h : xs_H} {m : xk_M} {f l : Nat} {c : Int32} (hl : l ≤ 32) (hR : xr_H (xs_there (xs_clear h f) f true) m) : xr_H (xs_place h f l c) (xk_fn (xk_up m 4 f (nI l)) 5 (f * 32) l (fun i => (c + nI (7 * i)) &&& nI 255)) := by
  obtain ⟨r1, r2, r3, r4, r5, r6⟩ := hR
  refine ⟨fun g hg => ?_, fun g hg => ?_, fun g i hg hi => ?_, fun j hj hj2 => ?_, ?_, ?_⟩
  · rw [xk_fn_a (by decide), xk_up_a (by decide)]; exact r1 g hg
  · rw [xk_fn_a (by decide)]
    show _ = nI (xs_u h.2.1 f l g)
    by_cases e : g = f
    · subst e; rw [xk_up_s, xs_u_s]
    · rw [xk_up_k e, r2 g hg, xs_u_n e]; show nI (xs_u h.2.1 f 0 g) = _; rw [xs_u_n e]
  · show _ = xs_u h.2.2.1 f _ g i
    have r3' := r3 g i hg hi
    change m 5 (g * 32 + i) = xs_u h.2.2.1 f (fun _ => 0) g i at r3'
    unfold xk_fn
    by_cases e : g = f
    · subst e
      rw [xs_u_s] at r3' ⊢
      by_cases e2 : i < l
      · rw [if_pos ⟨rfl, by omega, by omega⟩, if_pos e2, Nat.add_sub_cancel_left]
      · rw [if_neg (by omega), if_neg e2, xk_up_a (by decide), r3']
    · rw [if_neg (by omega), xk_up_a (by decide), r3', xs_u_n e, xs_u_n e]
  · rw [xk_fn_a (by decide), xk_up_a (by decide)]; exact r4 j hj hj2
  · rw [xk_fn_a (by decide), xk_up_a (by decide)]; exact r5
  · rw [xk_fn_a (by decide), xk_up_a (by decide)]; exact r6

set_option maxRecDepth 20000 in
set_option maxHeartbeats 4000000 in
theorem l_place {E : xk_E} {n : Nat} {r : xk_P} {Q : xk_Q} {m : xk_M} {f l : Nat} {x : Int32} (hn : 74 ≤ n) (hS : xr_S r n) (hf : f < 8) (hl : l ≤ 32) (hQ : Q none n (xk_fn m 5 (f * 32) l (fun i => (x + nI (7 * i)) &&& nI 255)) r) : ∀ (k : Nat) (i : Nat), l - i < k → i ≤ l → xk_W E m_Host_place 22 [some (.inr (some 2)), some (.inl (nI f)), some (.inl (nI l)), some (.inl x), some (.inl (nI i))] [] n (xk_fn m 5 (f * 32) i (fun i => (x + nI (7 * i)) &&& nI 255)) r 0 0 Q := by
  intro k
  induction k with
  | zero => intro i h; exact absurd h (Nat.not_lt_zero _)
  | succ k ih =>
    intro i hk h2
    refine xk_iload (pc := 22) d_Host_place_22 rfl ?_
    refine xk_iload_n (pc := 24) d_Host_place_24 rfl ?_
    first | refine xk_icmp_geN (pc := 25) (tgt := 57) d_Host_place_25 rfl (by omega) (by omega) (fun c_25 => ?_) (fun c_25 => ?_) | refine xk_icmp_ge (pc := 25) (tgt := 57) d_Host_place_25 rfl (fun c_25 => ?_) (fun c_25 => ?_)
    · have e : i = l := by omega
      subst e
      refine xk_vret (pc := 57) rfl d_Host_place_57 rfl (Nat.le_of_ble_eq_true rfl) (Nat.le_of_ble_eq_true rfl) ?_
      exact hQ
    · refine xk_aload_n (pc := 28) d_Host_place_28 rfl ?_
      refine xk_getRo (pc := 29) d_Host_place_29 fl_Host_19 (by first | rfl | assumption) rfl (by omega) (by omega) (hS _ _ _ rfl (by omega)) ?_
      refine xk_iload_n (pc := 32) d_Host_place_32 rfl ?_
      refine xk_bipush (pc := 33) (v := nI 32) d_Host_place_33 (by decide) ?_
      first | refine xk_imulN (pc := 35) d_Host_place_35 ?_ | refine xk_imul (pc := 35) d_Host_place_35 ?_
      refine xk_iload (pc := 36) d_Host_place_36 rfl ?_
      first | refine xk_iaddN (pc := 38) d_Host_place_38 ?_ | refine xk_iadd (pc := 38) d_Host_place_38 ?_
      refine xk_iload_n (pc := 39) d_Host_place_39 rfl ?_
      refine xk_bipush (pc := 40) (v := nI 7) d_Host_place_40 (by decide) ?_
      refine xk_iload (pc := 42) d_Host_place_42 rfl ?_
      first | refine xk_imulN (pc := 44) d_Host_place_44 ?_ | refine xk_imul (pc := 44) d_Host_place_44 ?_
      first | refine xk_iaddN (pc := 45) d_Host_place_45 ?_ | refine xk_iadd (pc := 45) d_Host_place_45 ?_
      refine xk_sipush (pc := 46) (v := nI 255) d_Host_place_46 (by decide) ?_
      refine xk_iand (pc := 49) d_Host_place_49 ?_
      refine xk_iastore (pc := 50) d_Host_place_50 (by first | rfl | assumption) (by omega) (by omega) rfl (by omega) (by decide) ?_
      rw [xk_fn_s (g := fun i => (x + nI (7 * i)) &&& nI 255) rfl]
      refine xk_iincN (pc := 51) (d := 1) d_Host_place_51 rfl ?_
      refine xk_goto (pc := 54) (tgt := 22) d_Host_place_54 rfl ?_
      exact ih (i + 1) (by omega) (by omega)

set_option maxRecDepth 20000 in
set_option maxHeartbeats 4000000 in
theorem c_Host_place {E : xk_E} {n : Nat} {m : xk_M} {r : xk_P} {Q : xk_Q} (hn : 74 ≤ n) (hS : xr_S r n) {h : xs_H} {f l : Nat} {x : Int32} (hR : xr_H h m) (hf : f < 8) (hl : l ≤ 32) (hQ : ∀ m', xr_H (xs_place h f l x) m' → (∀ a, a ≠ 3 → a ≠ 4 → a ≠ 5 → m' a = m a) → Q none n m' r) : xk_W E m_Host_place 0 (xk_ent m_Host_place [.inr (some 2), .inl (nI f), .inl (nI l), .inl x]) [] n m r 0 0 Q := by
  show xk_W E m_Host_place 0 [some (.inr (some 2)), some (.inl (nI f)), some (.inl (nI l)), some (.inl x), none] [] n m r 0 0 Q
  refine xk_aload_n (pc := 0) d_Host_place_0 rfl ?_
  refine xk_iload_n (pc := 1) d_Host_place_1 rfl ?_
  refine xk_cV1 (pc := 2) d_Host_place_2 ml_Host_32 cz_Host_clear ⟨rfl, rfl⟩ rfl (by first | rfl | assumption) (by omega) (by omega) (Nat.le_of_ble_eq_true rfl) ⟨(Nat.le_of_ble_eq_true rfl), (Nat.le_of_ble_eq_true rfl)⟩ ?_
  refine c_Host_clear hn hS hR hf (fun m1 hR1 hm1 => ?_)
  refine xk_aload_n (pc := 5) d_Host_place_5 rfl ?_
  refine xk_getRo (pc := 6) d_Host_place_6 fl_Host_9 (by first | rfl | assumption) rfl (by omega) (by omega) (hS _ _ _ rfl (by omega)) ?_
  refine xk_iload_n (pc := 9) d_Host_place_9 rfl ?_
  refine xk_iconst (pc := 10) (v := nI 1) d_Host_place_10 (by decide) ?_
  refine xk_bastore (pc := 11) d_Host_place_11 (by first | rfl | assumption) (by omega) (by omega) rfl (by omega) (by decide) rfl ?_
  refine xk_aload_n (pc := 12) d_Host_place_12 rfl ?_
  refine xk_getRo (pc := 13) d_Host_place_13 fl_Host_15 (by first | rfl | assumption) rfl (by omega) (by omega) (hS _ _ _ rfl (by omega)) ?_
  refine xk_iload_n (pc := 16) d_Host_place_16 rfl ?_
  refine xk_iload_n (pc := 17) d_Host_place_17 rfl ?_
  refine xk_iastore (pc := 18) d_Host_place_18 (by first | rfl | assumption) (by omega) (by omega) rfl (by omega) (by decide) ?_
  refine xk_iconst (pc := 19) (v := nI 0) d_Host_place_19 (by decide) ?_
  refine xk_istore (pc := 20) d_Host_place_20 (by decide) ?_
  have hR2 := xr_H_there (f := f) (b := true) hR1
  have K := l_place (E := E) (m := xk_up (xk_up m1 3 f (nI 1)) 4 f (nI l)) (x := x) hn hS hf hl (hQ _ (xr_H_place hl hR2) (fun a h3 h4 h5 => by
    funext j
    rw [xk_fn_a h5, xk_up_a h4]
    show xk_up m1 3 f (xs_bi true) a j = m a j
    rw [xk_up_a h3, hm1 a h4 h5])) (l + 1) 0 (by omega) (by omega)
  rw [xk_fn_0] at K
  exact K

set_option maxRecDepth 20000 in
set_option maxHeartbeats 4000000 in
theorem c_Host_makeFile {E : xk_E} {n : Nat} {m : xk_M} {r : xk_P} {Q : xk_Q} (hn : 74 ≤ n) (hS : xr_S r n) {h : xs_H} {f : Nat} (hR : xr_H h m) (hops : h.2.2.2.2.1 < 2 ^ 30) (htf : h.2.2.2.2.2 < 2 ^ 30) (hf : f < 8) (h1 : h.2.2.2.2.2 = 0 → ∀ m', xr_H (xs_there (xs_clear (xs_op h 2 f 0).1 f) f true) m' → (∀ a, a ≠ 2 → a ≠ 3 → a ≠ 4 → a ≠ 5 → a ≠ 6 → m' a = m a) → Q (some (.inl (nI 1))) n m' r) (h0 : h.2.2.2.2.2 ≠ 0 → ∀ m', xr_H (xs_op h 2 f 0).1 m' → (∀ a, a ≠ 2 → a ≠ 6 → m' a = m a) → Q (some (.inl (nI 0))) n m' r) : xk_W E m_Host_makeFile 0 (xk_ent m_Host_makeFile [.inr (some 2), .inl (nI f)]) [] n m r 0 0 Q := by
  show xk_W E m_Host_makeFile 0 [some (.inr (some 2)), some (.inl (nI f))] [] n m r 0 0 Q
  refine xk_aload_n (pc := 0) d_Host_makeFile_0 rfl ?_
  refine xk_iconst (pc := 1) (v := nI 2) d_Host_makeFile_1 (by decide) ?_
  refine xk_iload_n (pc := 2) d_Host_makeFile_2 rfl ?_
  refine xk_iconst (pc := 3) (v := nI 0) d_Host_makeFile_3 (by decide) ?_
  refine xk_cV3 (pc := 4) d_Host_makeFile_4 ml_Host_36 cz_Host_succeeds ⟨rfl, rfl⟩ rfl (by first | rfl | assumption) (by omega) (by omega) (Nat.le_of_ble_eq_true rfl) ⟨(Nat.le_of_ble_eq_true rfl), (Nat.le_of_ble_eq_true rfl)⟩ ?_
  refine c_Host_succeeds (o := 2) (b := 0) hn hS hR hops htf (fun z m1 hR1 hm1 => ?_) (fun z m1 hR1 hm1 => ?_)
  · refine xk_if_ne (pc := 7) (tgt := 12) d_Host_makeFile_7 rfl (fun _ => ?_) (fun h => absurd h (by decide))
    refine xk_aload_n (pc := 12) d_Host_makeFile_12 rfl ?_
    refine xk_iload_n (pc := 13) d_Host_makeFile_13 rfl ?_
    refine xk_cV1 (pc := 14) d_Host_makeFile_14 ml_Host_32 cz_Host_clear ⟨rfl, rfl⟩ rfl (by first | rfl | assumption) (by omega) (by omega) (Nat.le_of_ble_eq_true rfl) ⟨(Nat.le_of_ble_eq_true rfl), (Nat.le_of_ble_eq_true rfl)⟩ ?_
    refine c_Host_clear hn hS hR1 hf (fun m2 hR2 hm2 => ?_)
    refine xk_aload_n (pc := 17) d_Host_makeFile_17 rfl ?_
    refine xk_getRo (pc := 18) d_Host_makeFile_18 fl_Host_9 (by first | rfl | assumption) rfl (by omega) (by omega) (hS _ _ _ rfl (by omega)) ?_
    refine xk_iload_n (pc := 21) d_Host_makeFile_21 rfl ?_
    refine xk_iconst (pc := 22) (v := nI 1) d_Host_makeFile_22 (by decide) ?_
    refine xk_bastore (pc := 23) d_Host_makeFile_23 (by first | rfl | assumption) (by omega) (by omega) rfl (by omega) (by decide) rfl ?_
    refine xk_iconst (pc := 24) (v := nI 1) d_Host_makeFile_24 (by decide) ?_
    refine xk_zret (pc := 25) rfl d_Host_makeFile_25 rfl rfl (Nat.le_of_ble_eq_true rfl) (Nat.le_of_ble_eq_true rfl) ?_
    exact h1 z _ (xr_H_there (b := true) hR2) (fun a e2 e3 e4 e5 e6 => by funext j; show xk_up m2 3 f (xs_bi true) a j = m a j; rw [xk_up_a e3, hm2 a e4 e5, hm1 a e2 e6])
  · refine xk_if_ne (pc := 7) (tgt := 12) d_Host_makeFile_7 rfl (fun h => absurd (by decide) h) (fun _ => ?_)
    refine xk_iconst (pc := 10) (v := nI 0) d_Host_makeFile_10 (by decide) ?_
    refine xk_zret (pc := 11) rfl d_Host_makeFile_11 rfl rfl (Nat.le_of_ble_eq_true rfl) (Nat.le_of_ble_eq_true rfl) ?_
    exact h0 z m1 hR1 hm1

set_option maxRecDepth 20000 in
set_option maxHeartbeats 4000000 in
theorem c_Host_emptyFile {E : xk_E} {n : Nat} {m : xk_M} {r : xk_P} {Q : xk_Q} (hn : 74 ≤ n) (hS : xr_S r n) {h : xs_H} {f : Nat} (hR : xr_H h m) (hops : h.2.2.2.2.1 < 2 ^ 30) (htf : h.2.2.2.2.2 < 2 ^ 30) (hf : f < 8) (h1 : h.2.2.2.2.2 = 0 → ∀ m', xr_H (xs_clear (xs_op h 3 f 0).1 f) m' → (∀ a, a ≠ 2 → a ≠ 4 → a ≠ 5 → a ≠ 6 → m' a = m a) → Q (some (.inl (nI 1))) n m' r) (h0 : h.2.2.2.2.2 ≠ 0 → ∀ m', xr_H (xs_op h 3 f 0).1 m' → (∀ a, a ≠ 2 → a ≠ 6 → m' a = m a) → Q (some (.inl (nI 0))) n m' r) : xk_W E m_Host_emptyFile 0 (xk_ent m_Host_emptyFile [.inr (some 2), .inl (nI f)]) [] n m r 0 0 Q := by
  show xk_W E m_Host_emptyFile 0 [some (.inr (some 2)), some (.inl (nI f))] [] n m r 0 0 Q
  refine xk_aload_n (pc := 0) d_Host_emptyFile_0 rfl ?_
  refine xk_iconst (pc := 1) (v := nI 3) d_Host_emptyFile_1 (by decide) ?_
  refine xk_iload_n (pc := 2) d_Host_emptyFile_2 rfl ?_
  refine xk_iconst (pc := 3) (v := nI 0) d_Host_emptyFile_3 (by decide) ?_
  refine xk_cV3 (pc := 4) d_Host_emptyFile_4 ml_Host_36 cz_Host_succeeds ⟨rfl, rfl⟩ rfl (by first | rfl | assumption) (by omega) (by omega) (Nat.le_of_ble_eq_true rfl) ⟨(Nat.le_of_ble_eq_true rfl), (Nat.le_of_ble_eq_true rfl)⟩ ?_
  refine c_Host_succeeds (o := 3) (b := 0) hn hS hR hops htf (fun z m1 hR1 hm1 => ?_) (fun z m1 hR1 hm1 => ?_)
  · refine xk_if_ne (pc := 7) (tgt := 12) d_Host_emptyFile_7 rfl (fun _ => ?_) (fun h => absurd h (by decide))
    refine xk_aload_n (pc := 12) d_Host_emptyFile_12 rfl ?_
    refine xk_iload_n (pc := 13) d_Host_emptyFile_13 rfl ?_
    refine xk_cV1 (pc := 14) d_Host_emptyFile_14 ml_Host_32 cz_Host_clear ⟨rfl, rfl⟩ rfl (by first | rfl | assumption) (by omega) (by omega) (Nat.le_of_ble_eq_true rfl) ⟨(Nat.le_of_ble_eq_true rfl), (Nat.le_of_ble_eq_true rfl)⟩ ?_
    refine c_Host_clear hn hS hR1 hf (fun m2 hR2 hm2 => ?_)
    refine xk_iconst (pc := 17) (v := nI 1) d_Host_emptyFile_17 (by decide) ?_
    refine xk_zret (pc := 18) rfl d_Host_emptyFile_18 rfl rfl (Nat.le_of_ble_eq_true rfl) (Nat.le_of_ble_eq_true rfl) ?_
    exact h1 z _ hR2 (fun a e2 e4 e5 e6 => by rw [hm2 a e4 e5, hm1 a e2 e6])
  · refine xk_if_ne (pc := 7) (tgt := 12) d_Host_emptyFile_7 rfl (fun h => absurd (by decide) h) (fun _ => ?_)
    refine xk_iconst (pc := 10) (v := nI 0) d_Host_emptyFile_10 (by decide) ?_
    refine xk_zret (pc := 11) rfl d_Host_emptyFile_11 rfl rfl (Nat.le_of_ble_eq_true rfl) (Nat.le_of_ble_eq_true rfl) ?_
    exact h0 z m1 hR1 hm1

set_option maxRecDepth 20000 in
set_option maxHeartbeats 4000000 in
theorem c_Host_removeFile {E : xk_E} {n : Nat} {m : xk_M} {r : xk_P} {Q : xk_Q} (hn : 74 ≤ n) (hS : xr_S r n) {h : xs_H} {f : Nat} (hR : xr_H h m) (hops : h.2.2.2.2.1 < 2 ^ 30) (htf : h.2.2.2.2.2 < 2 ^ 30) (hf : f < 8) (h1 : h.2.2.2.2.2 = 0 → ∀ m', xr_H (xs_there (xs_op h 4 f 0).1 f false) m' → (∀ a, a ≠ 2 → a ≠ 3 → a ≠ 6 → m' a = m a) → Q (some (.inl (nI 1))) n m' r) (h0 : h.2.2.2.2.2 ≠ 0 → ∀ m', xr_H (xs_op h 4 f 0).1 m' → (∀ a, a ≠ 2 → a ≠ 6 → m' a = m a) → Q (some (.inl (nI 0))) n m' r) : xk_W E m_Host_removeFile 0 (xk_ent m_Host_removeFile [.inr (some 2), .inl (nI f)]) [] n m r 0 0 Q := by
  show xk_W E m_Host_removeFile 0 [some (.inr (some 2)), some (.inl (nI f))] [] n m r 0 0 Q
  refine xk_aload_n (pc := 0) d_Host_removeFile_0 rfl ?_
  refine xk_iconst (pc := 1) (v := nI 4) d_Host_removeFile_1 (by decide) ?_
  refine xk_iload_n (pc := 2) d_Host_removeFile_2 rfl ?_
  refine xk_iconst (pc := 3) (v := nI 0) d_Host_removeFile_3 (by decide) ?_
  refine xk_cV3 (pc := 4) d_Host_removeFile_4 ml_Host_36 cz_Host_succeeds ⟨rfl, rfl⟩ rfl (by first | rfl | assumption) (by omega) (by omega) (Nat.le_of_ble_eq_true rfl) ⟨(Nat.le_of_ble_eq_true rfl), (Nat.le_of_ble_eq_true rfl)⟩ ?_
  refine c_Host_succeeds (o := 4) (b := 0) hn hS hR hops htf (fun z m1 hR1 hm1 => ?_) (fun z m1 hR1 hm1 => ?_)
  · refine xk_if_ne (pc := 7) (tgt := 12) d_Host_removeFile_7 rfl (fun _ => ?_) (fun h => absurd h (by decide))
    refine xk_aload_n (pc := 12) d_Host_removeFile_12 rfl ?_
    refine xk_getRo (pc := 13) d_Host_removeFile_13 fl_Host_9 (by first | rfl | assumption) rfl (by omega) (by omega) (hS _ _ _ rfl (by omega)) ?_
    refine xk_iload_n (pc := 16) d_Host_removeFile_16 rfl ?_
    refine xk_iconst (pc := 17) (v := nI 0) d_Host_removeFile_17 (by decide) ?_
    refine xk_bastore (pc := 18) d_Host_removeFile_18 (by first | rfl | assumption) (by omega) (by omega) rfl (by omega) (by decide) rfl ?_
    refine xk_iconst (pc := 19) (v := nI 1) d_Host_removeFile_19 (by decide) ?_
    refine xk_zret (pc := 20) rfl d_Host_removeFile_20 rfl rfl (Nat.le_of_ble_eq_true rfl) (Nat.le_of_ble_eq_true rfl) ?_
    exact h1 z _ (xr_H_there (b := false) hR1) (fun a e2 e3 e6 => by funext j; show xk_up m1 3 f (xs_bi false) a j = m a j; rw [xk_up_a e3, hm1 a e2 e6])
  · refine xk_if_ne (pc := 7) (tgt := 12) d_Host_removeFile_7 rfl (fun h => absurd (by decide) h) (fun _ => ?_)
    refine xk_iconst (pc := 10) (v := nI 0) d_Host_removeFile_10 (by decide) ?_
    refine xk_zret (pc := 11) rfl d_Host_removeFile_11 rfl rfl (Nat.le_of_ble_eq_true rfl) (Nat.le_of_ble_eq_true rfl) ?_
    exact h0 z m1 hR1 hm1

theorem xk_cp_a {m : xk_M} {a b sp dp k c : Nat} (h : c ≠ b) : xk_cp m a b sp dp k c = m c := by
  funext j
  unfold xk_cp
  rw [if_neg (fun q => h q.1)]
theorem xr_H_kept {h : xs_H} {m m' : xk_M} (hR : xr_H h m) (h2 : m' 2 = m 2) (h3 : m' 3 = m 3) (h4 : m' 4 = m 4) (h5 : m' 5 = m 5) (h6 : m' 6 = m 6) : xr_H h m' := by
  unfold xr_H
  rw [h2, h3, h4, h5, h6]
  exact hR

set_option maxRecDepth 20000 in
set_option maxHeartbeats 4000000 in
theorem c_Host_readBlock {E : xk_E} {n : Nat} {m : xk_M} {r : xk_P} {Q : xk_Q} (hn : 74 ≤ n) (hS : xr_S r n) {h : xs_H} {f b d : Nat} (hR : xr_H h m) (hops : h.2.2.2.2.1 < 2 ^ 30) (htf : h.2.2.2.2.2 < 2 ^ 30) (hf : f < 8) (hb : b < 4) (hd : xk_kd d = .inr (0, 8)) (hd1 : 7 ≤ d) (hdn : d < n) (h1 : h.2.2.2.2.2 = 0 → ∀ m', xr_H (xs_op h 0 f b).1 m' → (∀ k, k < 8 → m' d k = h.2.2.1 f (8 * b + k)) → (∀ a, a ≠ 2 → a ≠ 6 → a ≠ d → m' a = m a) → Q (some (.inl (nI 1))) n m' r) (h0 : h.2.2.2.2.2 ≠ 0 → ∀ m', xr_H (xs_op h 0 f b).1 m' → (∀ a, a ≠ 2 → a ≠ 6 → m' a = m a) → Q (some (.inl (nI 0))) n m' r) : xk_W E m_Host_readBlock 0 (xk_ent m_Host_readBlock [.inr (some 2), .inl (nI f), .inl (nI b), .inr (some d)]) [] n m r 0 0 Q := by
  show xk_W E m_Host_readBlock 0 [some (.inr (some 2)), some (.inl (nI f)), some (.inl (nI b)), some (.inr (some d)), none] [] n m r 0 0 Q
  refine xk_aload_n (pc := 0) d_Host_readBlock_0 rfl ?_
  refine xk_iconst (pc := 1) (v := nI 0) d_Host_readBlock_1 (by decide) ?_
  refine xk_iload_n (pc := 2) d_Host_readBlock_2 rfl ?_
  refine xk_iload_n (pc := 3) d_Host_readBlock_3 rfl ?_
  refine xk_cV3 (pc := 4) d_Host_readBlock_4 ml_Host_36 cz_Host_succeeds ⟨rfl, rfl⟩ rfl (by first | rfl | assumption) (by omega) (by omega) (Nat.le_of_ble_eq_true rfl) ⟨(Nat.le_of_ble_eq_true rfl), (Nat.le_of_ble_eq_true rfl)⟩ ?_
  refine c_Host_succeeds (o := 0) (b := b) hn hS hR hops htf (fun z m1 hR1 hm1 => ?_) (fun z m1 hR1 hm1 => ?_)
  · refine xk_if_ne (pc := 7) (tgt := 12) d_Host_readBlock_7 rfl (fun _ => ?_) (fun h => absurd h (by decide))
    refine xk_iload_n (pc := 12) d_Host_readBlock_12 rfl ?_
    refine xk_bipush (pc := 13) (v := nI 32) d_Host_readBlock_13 (by decide) ?_
    first | refine xk_imulN (pc := 15) d_Host_readBlock_15 ?_ | refine xk_imul (pc := 15) d_Host_readBlock_15 ?_
    refine xk_iload_n (pc := 16) d_Host_readBlock_16 rfl ?_
    refine xk_bipush (pc := 17) (v := nI 8) d_Host_readBlock_17 (by decide) ?_
    first | refine xk_imulN (pc := 19) d_Host_readBlock_19 ?_ | refine xk_imul (pc := 19) d_Host_readBlock_19 ?_
    first | refine xk_iaddN (pc := 20) d_Host_readBlock_20 ?_ | refine xk_iadd (pc := 20) d_Host_readBlock_20 ?_
    refine xk_istore (pc := 21) d_Host_readBlock_21 (by decide) ?_
    refine xk_aload_n (pc := 23) d_Host_readBlock_23 rfl ?_
    refine xk_getRo (pc := 24) d_Host_readBlock_24 fl_Host_19 (by first | rfl | assumption) rfl (by omega) (by omega) (hS _ _ _ rfl (by omega)) ?_
    refine xk_iload (pc := 27) d_Host_readBlock_27 rfl ?_
    refine xk_aload_n (pc := 29) d_Host_readBlock_29 rfl ?_
    refine xk_iconst (pc := 30) (v := nI 0) d_Host_readBlock_30 (by decide) ?_
    refine xk_bipush (pc := 31) (v := nI 8) d_Host_readBlock_31 (by decide) ?_
    refine xk_copyi (pc := 33) (la := 256) (lb := 8) d_Host_readBlock_33 (xk_in (List.mem_of_getElem? (i := 394) (by decide +kernel)) rfl) (xk_in (List.mem_of_getElem? (i := 396) (by decide +kernel)) rfl) (xk_in (List.mem_of_getElem? (i := 395) (by decide +kernel)) rfl) (xk_in (List.mem_of_getElem? (i := 45) (by decide +kernel)) rfl) rfl hd (by omega) (by omega) (by omega) (by omega) rfl rfl rfl (by omega) (by omega) (by decide) (by decide) (Nat.le_of_ble_eq_true rfl) (by decide) ?_
    refine xk_iconst (pc := 36) (v := nI 1) d_Host_readBlock_36 (by decide) ?_
    refine xk_zret (pc := 37) rfl d_Host_readBlock_37 rfl rfl (Nat.le_of_ble_eq_true rfl) (Nat.le_of_ble_eq_true rfl) ?_
    refine h1 z _ (xr_H_kept hR1 (xk_cp_a (by omega)) (xk_cp_a (by omega)) (xk_cp_a (by omega)) (xk_cp_a (by omega)) (xk_cp_a (by omega))) (fun k hk => ?_) (fun a e2 e6 ed => by rw [xk_cp_a ed, hm1 a e2 e6])
    unfold xk_cp
    rw [if_pos ⟨rfl, by omega, by omega⟩, show f * 32 + b * 8 + (k - 0) = f * 32 + (8 * b + k) by omega]
    exact hR1.2.2.1 f (8 * b + k) hf (by omega)
  · refine xk_if_ne (pc := 7) (tgt := 12) d_Host_readBlock_7 rfl (fun h => absurd (by decide) h) (fun _ => ?_)
    refine xk_iconst (pc := 10) (v := nI 0) d_Host_readBlock_10 (by decide) ?_
    refine xk_zret (pc := 11) rfl d_Host_readBlock_11 rfl rfl (Nat.le_of_ble_eq_true rfl) (Nat.le_of_ble_eq_true rfl) ?_
    exact h0 z m1 hR1 hm1

/-- the host behind a block that was written out -/
def xs_wrh (h : xs_H) (l : Nat) (x : xs_B) : xs_H := (h.1, xs_u h.2.1 x.1 (max (h.2.1 x.1) (min (8 * x.2.1 + 8) l)), xs_u h.2.2.1 x.1 (fun i => if 8 * x.2.1 ≤ i ∧ i < min (8 * x.2.1 + 8) l then x.2.2.2 (i - 8 * x.2.1) else h.2.2.1 x.1 i), h.2.2.2)
theorem xr_H_wr {h : xs_H} {m : xk_M} {f b l : Nat} {dt : Bool} {g : Nat → Int32} {g' : Nat → Int32} (hR : xr_H h m) (hf : f < 8) (hb : b < 4) (hl : l ≤ 32) (hg : ∀ k, k < 8 → g' k = g k) : xr_H (xs_wrh h l (f, b, dt, g)) (xk_up (xk_fn m 5 (f * 32 + b * 8) (min (b * 8 + 8) l - b * 8) g') 4 f (nI (max (h.2.1 f) (min (b * 8 + 8) l)))) := by
  obtain ⟨r1, r2, r3, r4, r5, r6⟩ := hR
  have e8 : 8 * b + 8 = b * 8 + 8 := by omega
  refine ⟨fun g hg => ?_, fun g hg => ?_, fun q i hq hi => ?_, fun j hj hj2 => ?_, ?_, ?_⟩
  · rw [xk_up_a (by decide), xk_fn_a (by decide)]; exact r1 g hg
  · show _ = nI (xs_u h.2.1 f (max (h.2.1 f) (min (8 * b + 8) l)) g)
    by_cases e : g = f
    · subst e; rw [xk_up_s, xs_u_s, e8]
    · rw [xk_up_k e, xk_fn_a (by decide), r2 g hg, xs_u_n e]
  · show _ = xs_u h.2.2.1 f (fun i => if 8 * b ≤ i ∧ i < min (8 * b + 8) l then g (i - 8 * b) else h.2.2.1 f i) q i
    rw [xk_up_a (by decide)]
    unfold xk_fn
    by_cases e : q = f
    · subst e
      rw [xs_u_s]
      by_cases e2 : 8 * b ≤ i ∧ i < min (8 * b + 8) l
      · rw [if_pos ⟨rfl, by omega, by omega⟩, if_pos e2, hg _ (by omega)]
        congr 1
        omega
      · rw [if_neg (by omega), if_neg e2]; exact r3 q i hq hi
    · rw [if_neg (by omega), xs_u_n e]; exact r3 q i hq hi
  · rw [xk_up_a (by decide), xk_fn_a (by decide)]; exact r4 j hj hj2
  · rw [xk_up_a (by decide), xk_fn_a (by decide)]; exact r5
  · rw [xk_up_a (by decide), xk_fn_a (by decide)]; exact r6

set_option maxRecDepth 20000 in
set_option maxHeartbeats 4000000 in
theorem l_writeBlock {E : xk_E} {n : Nat} {r : xk_P} {Q : xk_Q} {m : xk_M} {f b d e : Nat} {lx : xk_V} (hn : 74 ≤ n) (hS : xr_S r n) (hf : f < 8) (hb : b < 4) (he : e ≤ b * 8 + 8) (hkd : xk_kd d = .inr (0, 8)) (hd1 : 7 ≤ d) (hdn : d < n) (hK : xk_W E m_Host_writeBlock 66 [some (.inr (some 2)), some (.inl (nI f)), some (.inl (nI b)), some (.inr (some d)), some lx, some (.inl (nI (b * 8))), some (.inl (nI e)), some (.inl (nI (max (b * 8) e)))] [] n (xk_fn m 5 (f * 32 + b * 8) (e - b * 8) (m d)) r 0 0 Q) : ∀ (k : Nat) (i : Nat) (M : xk_M), e - i < k → M = xk_fn m 5 (f * 32 + b * 8) (i - b * 8) (m d) → b * 8 ≤ i → (i ≤ e ∨ i = b * 8) → xk_W E m_Host_writeBlock 34 [some (.inr (some 2)), some (.inl (nI f)), some (.inl (nI b)), some (.inr (some d)), some lx, some (.inl (nI (b * 8))), some (.inl (nI e)), some (.inl (nI i))] [] n M r 0 0 Q := by
  intro k
  induction k with
  | zero => intro i M h; exact absurd h (Nat.not_lt_zero _)
  | succ k ih =>
    intro i M hk hM h2 h3
    subst hM
    refine xk_iload (pc := 34) d_Host_writeBlock_34 rfl ?_
    refine xk_iload (pc := 36) d_Host_writeBlock_36 rfl ?_
    first | refine xk_icmp_geN (pc := 38) (tgt := 66) d_Host_writeBlock_38 rfl (by omega) (by omega) (fun c_38 => ?_) (fun c_38 => ?_) | refine xk_icmp_ge (pc := 38) (tgt := 66) d_Host_writeBlock_38 rfl (fun c_38 => ?_) (fun c_38 => ?_)
    · have e1 : i = max (b * 8) e := by omega
      have e2 : i - b * 8 = e - b * 8 := by omega
      rw [e2, e1]
      exact hK
    · refine xk_aload_n (pc := 41) d_Host_writeBlock_41 rfl ?_
      refine xk_getRo (pc := 42) d_Host_writeBlock_42 fl_Host_19 (by first | rfl | assumption) rfl (by omega) (by omega) (hS _ _ _ rfl (by omega)) ?_
      refine xk_iload_n (pc := 45) d_Host_writeBlock_45 rfl ?_
      refine xk_bipush (pc := 46) (v := nI 32) d_Host_writeBlock_46 (by decide) ?_
      first | refine xk_imulN (pc := 48) d_Host_writeBlock_48 ?_ | refine xk_imul (pc := 48) d_Host_writeBlock_48 ?_
      refine xk_iload (pc := 49) d_Host_writeBlock_49 rfl ?_
      first | refine xk_iaddN (pc := 51) d_Host_writeBlock_51 ?_ | refine xk_iadd (pc := 51) d_Host_writeBlock_51 ?_
      refine xk_aload_n (pc := 52) d_Host_writeBlock_52 rfl ?_
      refine xk_iload (pc := 53) d_Host_writeBlock_53 rfl ?_
      refine xk_iload (pc := 55) d_Host_writeBlock_55 rfl ?_
      first | refine xk_isubN (pc := 57) d_Host_writeBlock_57 (by omega) ?_ | refine xk_isub (pc := 57) d_Host_writeBlock_57 ?_
      refine xk_ialoado (pc := 58) d_Host_writeBlock_58 (by first | rfl | assumption) (by omega) (by omega) rfl (by omega) (by decide) (xk_fn_a (by omega)) ?_
      refine xk_iastore (pc := 59) d_Host_writeBlock_59 (by first | rfl | assumption) (by omega) (by omega) rfl (by omega) (by decide) ?_
      rw [xk_fn_s (g := m d) (by omega), show i - b * 8 + 1 = i + 1 - b * 8 by omega]
      refine xk_iincN (pc := 60) (d := 1) d_Host_writeBlock_60 rfl ?_
      refine xk_goto (pc := 63) (tgt := 34) d_Host_writeBlock_63 rfl ?_
      exact ih (i + 1) _ (by omega) rfl (by omega) (by omega)

set_option maxRecDepth 20000 in
set_option maxHeartbeats 4000000 in
theorem c_Host_writeBlock {E : xk_E} {n : Nat} {m : xk_M} {r : xk_P} {Q : xk_Q} (hn : 74 ≤ n) (hS : xr_S r n) {h : xs_H} {f b d ln : Nat} {dt : Bool} {g : Nat → Int32} (hR : xr_H h m) (hops : h.2.2.2.2.1 < 2 ^ 30) (htf : h.2.2.2.2.2 < 2 ^ 30) (hhl : h.2.1 f ≤ 32) (hf : f < 8) (hb : b < 4) (hln : ln ≤ 32) (hd : xk_kd d = .inr (0, 8)) (hd1 : 7 ≤ d) (hdn : d < n) (hg : ∀ k, k < 8 → m d k = g k) (h1 : h.2.2.2.2.2 = 0 → ∀ m', xr_H (xs_wrh (xs_op h 1 f b).1 ln (f, b, dt, g)) m' → (∀ a, a ≠ 2 → a ≠ 4 → a ≠ 5 → a ≠ 6 → m' a = m a) → Q (some (.inl (nI 1))) n m' r) (h0 : h.2.2.2.2.2 ≠ 0 → ∀ m', xr_H (xs_op h 1 f b).1 m' → (∀ a, a ≠ 2 → a ≠ 6 → m' a = m a) → Q (some (.inl (nI 0))) n m' r) : xk_W E m_Host_writeBlock 0 (xk_ent m_Host_writeBlock [.inr (some 2), .inl (nI f), .inl (nI b), .inr (some d), .inl (nI ln)]) [] n m r 0 0 Q := by
  show xk_W E m_Host_writeBlock 0 [some (.inr (some 2)), some (.inl (nI f)), some (.inl (nI b)), some (.inr (some d)), some (.inl (nI ln)), none, none, none] [] n m r 0 0 Q
  refine xk_aload_n (pc := 0) d_Host_writeBlock_0 rfl ?_
  refine xk_iconst (pc := 1) (v := nI 1) d_Host_writeBlock_1 (by decide) ?_
  refine xk_iload_n (pc := 2) d_Host_writeBlock_2 rfl ?_
  refine xk_iload_n (pc := 3) d_Host_writeBlock_3 rfl ?_
  refine xk_cV3 (pc := 4) d_Host_writeBlock_4 ml_Host_36 cz_Host_succeeds ⟨rfl, rfl⟩ rfl (by first | rfl | assumption) (by omega) (by omega) (Nat.le_of_ble_eq_true rfl) ⟨(Nat.le_of_ble_eq_true rfl), (Nat.le_of_ble_eq_true rfl)⟩ ?_
  refine c_Host_succeeds (o := 1) (b := b) hn hS hR hops htf (fun z m1 hR1 hm1 => ?_) (fun z m1 hR1 hm1 => ?_)
  · refine xk_if_ne (pc := 7) (tgt := 12) d_Host_writeBlock_7 rfl (fun _ => ?_) (fun h => absurd h (by decide))
    refine xk_iload_n (pc := 12) d_Host_writeBlock_12 rfl ?_
    refine xk_bipush (pc := 13) (v := nI 8) d_Host_writeBlock_13 (by decide) ?_
    first | refine xk_imulN (pc := 15) d_Host_writeBlock_15 ?_ | refine xk_imul (pc := 15) d_Host_writeBlock_15 ?_
    refine xk_istore (pc := 16) d_Host_writeBlock_16 (by decide) ?_
    refine xk_iload (pc := 18) d_Host_writeBlock_18 rfl ?_
    refine xk_bipush (pc := 20) (v := nI 8) d_Host_writeBlock_20 (by decide) ?_
    first | refine xk_iaddN (pc := 22) d_Host_writeBlock_22 ?_ | refine xk_iadd (pc := 22) d_Host_writeBlock_22 ?_
    refine xk_iload (pc := 23) d_Host_writeBlock_23 rfl ?_
    refine xk_mmin (pc := 25) d_Host_writeBlock_25 (xk_in (List.mem_of_getElem? (i := 379) (by decide +kernel)) rfl) (xk_in (List.mem_of_getElem? (i := 380) (by decide +kernel)) rfl) (xk_in (List.mem_of_getElem? (i := 44) (by decide +kernel)) rfl) (xk_in (List.mem_of_getElem? (i := 381) (by decide +kernel)) rfl) (Nat.le_of_ble_eq_true rfl) (Nat.le_of_ble_eq_true rfl) (Nat.le_of_ble_eq_true rfl) (Nat.le_of_ble_eq_true rfl) ?_
    rw [xs_minN (by omega) (by omega)]
    refine xk_istore (pc := 28) d_Host_writeBlock_28 (by decide) ?_
    refine xk_iload (pc := 30) d_Host_writeBlock_30 rfl ?_
    refine xk_istore (pc := 32) d_Host_writeBlock_32 (by decide) ?_
    refine l_writeBlock (m := m1) (e := min (b * 8 + 8) ln) hn hS hf hb (by omega) hd hd1 hdn ?_ (min (b * 8 + 8) ln - b * 8 + 1) (b * 8) m1 (by omega) (by rw [Nat.sub_self, xk_fn_0]) (by omega) (by omega)
    refine xk_aload_n (pc := 66) d_Host_writeBlock_66 rfl ?_
    refine xk_getRo (pc := 67) d_Host_writeBlock_67 fl_Host_15 (by first | rfl | assumption) rfl (by omega) (by omega) (hS _ _ _ rfl (by omega)) ?_
    refine xk_iload_n (pc := 70) d_Host_writeBlock_70 rfl ?_
    refine xk_aload_n (pc := 71) d_Host_writeBlock_71 rfl ?_
    refine xk_getRo (pc := 72) d_Host_writeBlock_72 fl_Host_15 (by first | rfl | assumption) rfl (by omega) (by omega) (hS _ _ _ rfl (by omega)) ?_
    refine xk_iload_n (pc := 75) d_Host_writeBlock_75 rfl ?_
    refine xk_ialoado (pc := 76) d_Host_writeBlock_76 (by first | rfl | assumption) (by omega) (by omega) rfl (by omega) (by decide) ((xk_fn_a (by decide)).trans (hR1.2.1 f hf)) ?_
    refine xk_iload (pc := 77) d_Host_writeBlock_77 rfl ?_
    refine xk_mmax (pc := 79) d_Host_writeBlock_79 (xk_in (List.mem_of_getElem? (i := 382) (by decide +kernel)) rfl) (xk_in (List.mem_of_getElem? (i := 383) (by decide +kernel)) rfl) (xk_in (List.mem_of_getElem? (i := 44) (by decide +kernel)) rfl) (xk_in (List.mem_of_getElem? (i := 384) (by decide +kernel)) rfl) (Nat.le_of_ble_eq_true rfl) (Nat.le_of_ble_eq_true rfl) (Nat.le_of_ble_eq_true rfl) (Nat.le_of_ble_eq_true rfl) ?_
    have hhl' : (xs_op h 1 f b).1.2.1 f ≤ 32 := hhl
    rw [xs_maxN (by omega) (by omega)]
    refine xk_iastore (pc := 82) d_Host_writeBlock_82 (by first | rfl | assumption) (by omega) (by omega) rfl (by omega) (by decide) ?_
    refine xk_iconst (pc := 83) (v := nI 1) d_Host_writeBlock_83 (by decide) ?_
    refine xk_zret (pc := 84) rfl d_Host_writeBlock_84 rfl rfl (Nat.le_of_ble_eq_true rfl) (Nat.le_of_ble_eq_true rfl) ?_
    refine h1 z _ (xr_H_wr hR1 hf hb hln (g := g) (g' := m1 d) (fun k hk => by rw [hm1 d (by omega) (by omega)]; exact hg k hk)) (fun a e2 e4 e5 e6 => by funext j; rw [xk_up_a e4, xk_fn_a e5, hm1 a e2 e6])
  · refine xk_if_ne (pc := 7) (tgt := 12) d_Host_writeBlock_7 rfl (fun h => absurd (by decide) h) (fun _ => ?_)
    refine xk_iconst (pc := 10) (v := nI 0) d_Host_writeBlock_10 (by decide) ?_
    refine xk_zret (pc := 11) rfl d_Host_writeBlock_11 rfl rfl (Nat.le_of_ble_eq_true rfl) (Nat.le_of_ble_eq_true rfl) ?_
    exact h0 z m1 hR1 hm1
end
section
def xr_B (x : xs_B) (a : Nat) (m : xk_M) : Prop := m a 0 = nI x.1 ∧ m a 1 = nI x.2.1 ∧ m a 2 = xs_bi x.2.2.1 ∧ ∀ k, k < 8 → m (a + 1) k = x.2.2.2 k
/-- the cache of the class: its blocks lie in the five places in some order -/
def xr_C (l : List xs_B) (m : xk_M) (r : xk_P) : Prop := m 7 3 = nI l.length ∧ l.length ≤ 5 ∧ ∃ β : Nat → Nat, (∀ i, i < 5 → β i < 5 ∧ r 9 i = some (10 + 2 * β i)) ∧ (∀ i j, i < 5 → j < 5 → β i = β j → i = j) ∧ ∀ (i : Nat) (x : xs_B), l[i]? = some x → xr_B x (10 + 2 * β i) m
def xr_L (ln : Nat → Nat) (m : xk_M) : Prop := ∀ f, f < 8 → m 8 f = nI (ln f)
def xr_F (F : xs_F) (m : xk_M) (r : xk_P) : Prop := xr_H F.1 m ∧ xr_L F.2.1 m ∧ xr_C F.2.2 m r
/-- what holds of the file side -/
def xs_okF (F : xs_F) : Prop := (∀ f, f < 8 → F.1.2.1 f ≤ F.2.1 f ∧ F.2.1 f ≤ 32) ∧ (∀ f i, f < 8 → F.1.2.1 f ≤ i → i < 32 → F.1.2.2.1 f i = 0) ∧ (∀ (i : Nat) (x : xs_B), F.2.2[i]? = some x → x.1 < 8 ∧ x.2.1 < 4 ∧ (x.2.2.1 = true → 8 * x.2.1 < F.2.1 x.1)) ∧ (∀ (i j : Nat) (x y : xs_B), F.2.2[i]? = some x → F.2.2[j]? = some y → x.1 = y.1 → x.2.1 = y.2.1 → i = j) ∧ F.2.2.length ≤ 5 ∧ F.1.2.2.2.2.2 ≤ 9
def xs_small (F : xs_F) : Prop := F.1.2.2.2.2.1 < 2 ^ 20
theorem xs_bi_nz {b : Bool} (h : ¬ xs_bi b = 0) : b = true := by
  cases b
  · exact absurd rfl h
  · rfl
theorem xs_fi_none {α : Type} {p : α → Bool} : ∀ {l : List α}, (∀ (j : Nat) (x : α), l[j]? = some x → p x = false) → l.findIdx? p = none
  | [], _ => rfl
  | y :: l, h => by
    rw [List.findIdx?_cons, h 0 y rfl, if_neg (by decide), xs_fi_none (fun j x hj => h (j + 1) x (by rw [List.getElem?_cons_succ]; exact hj))]
    rfl
theorem xs_fi_some {α : Type} {p : α → Bool} : ∀ {l : List α} {i : Nat} {x : α}, l[i]? = some x → p x = true → (∀ (j : Nat) (y : α), j < i → l[j]? = some y → p y = false) → l.findIdx? p = some i
  | [], i, x, h, _, _ => by simp at h
  | y :: l, 0, x, h, hp, _ => by
    rw [List.getElem?_cons_zero] at h
    cases h
    rw [List.findIdx?_cons, hp, if_pos rfl]
  | y :: l, i + 1, x, h, hp, hn => by
    rw [List.getElem?_cons_succ] at h
    rw [List.findIdx?_cons, hn 0 y (by omega) rfl, if_neg (by decide), xs_fi_some h hp (fun j z hj hz => hn (j + 1) z (by omega) (by rw [List.getElem?_cons_succ]; exact hz))]
    rfl
theorem xs_fi_is {l : List xs_B} {f b i : Nat} (h : l.findIdx? (xs_is f b) = some i) : ∃ x, l[i]? = some x ∧ x.1 = f ∧ x.2.1 = b := by
  rw [List.findIdx?_eq_some_iff_getElem] at h
  obtain ⟨hi, hp, -⟩ := h
  refine ⟨l[i], List.getElem?_eq_getElem hi, ?_⟩
  unfold xs_is at hp
  exact of_decide_eq_true hp
theorem xs_any_f {l : List xs_B} {f : Nat} (h : ∀ (j : Nat) (x : xs_B), l[j]? = some x → ¬ x.1 = f) : l.any (fun x => decide (x.1 = f)) = false := by
  rw [List.any_eq_false]
  intro x hx
  obtain ⟨j, hj⟩ := List.getElem?_of_mem hx
  simp [h j x hj]
theorem xs_any_t {l : List xs_B} {f i : Nat} {x : xs_B} (h : l[i]? = some x) (hx : x.1 = f) : l.any (fun x => decide (x.1 = f)) = true := by
  rw [List.any_eq_true]
  exact ⟨x, List.mem_of_getElem? h, by simp [hx]⟩
theorem xs_get_lt {α : Type} {l : List α} {i : Nat} (h : i < l.length) : ∃ x, l[i]? = some x := ⟨l[i], List.getElem?_eq_getElem h⟩
theorem xs_lt {α : Type} {l : List α} {i : Nat} {x : α} (h : l[i]? = some x) : i < l.length := (List.getElem?_eq_some_iff.mp h).1

set_option maxRecDepth 20000 in
set_option maxHeartbeats 4000000 in
theorem c_Cache_lengthOf {E : xk_E} {n : Nat} {m : xk_M} {r : xk_P} {Q : xk_Q} (hn : 74 ≤ n) (hS : xr_S r n) {f : Nat} (hf : f < 8) (hQ : Q (some (.inl (m 8 f))) n m r) : xk_W E m_Cache_lengthOf 0 (xk_ent m_Cache_lengthOf [.inr (some 7), .inl (nI f)]) [] n m r 0 0 Q := by
  show xk_W E m_Cache_lengthOf 0 [some (.inr (some 7)), some (.inl (nI f))] [] n m r 0 0 Q
  refine xk_aload_n (pc := 0) d_Cache_lengthOf_0 rfl ?_
  refine xk_getRo (pc := 1) d_Cache_lengthOf_1 fl_Cache_9 (by first | rfl | assumption) rfl (by omega) (by omega) (hS _ _ _ rfl (by omega)) ?_
  refine xk_iload_n (pc := 4) d_Cache_lengthOf_4 rfl ?_
  refine xk_iaload (pc := 5) d_Cache_lengthOf_5 (by first | rfl | assumption) (by omega) (by omega) rfl (by omega) (by decide) ?_
  refine xk_iret (pc := 6) rfl d_Cache_lengthOf_6 rfl (Nat.le_of_ble_eq_true rfl) (Nat.le_of_ble_eq_true rfl) ?_
  exact hQ

set_option maxRecDepth 20000 in
set_option maxHeartbeats 4000000 in
theorem c_Cache_setLength {E : xk_E} {n : Nat} {m : xk_M} {r : xk_P} {Q : xk_Q} (hn : 74 ≤ n) (hS : xr_S r n) {f : Nat} {x : Int32} (hf : f < 8) (hQ : Q none n (xk_up m 8 f x) r) : xk_W E m_Cache_setLength 0 (xk_ent m_Cache_setLength [.inr (some 7), .inl (nI f), .inl x]) [] n m r 0 0 Q := by
  show xk_W E m_Cache_setLength 0 [some (.inr (some 7)), some (.inl (nI f)), some (.inl x)] [] n m r 0 0 Q
  refine xk_aload_n (pc := 0) d_Cache_setLength_0 rfl ?_
  refine xk_getRo (pc := 1) d_Cache_setLength_1 fl_Cache_9 (by first | rfl | assumption) rfl (by omega) (by omega) (hS _ _ _ rfl (by omega)) ?_
  refine xk_iload_n (pc := 4) d_Cache_setLength_4 rfl ?_
  refine xk_iload_n (pc := 5) d_Cache_setLength_5 rfl ?_
  refine xk_iastore (pc := 6) d_Cache_setLength_6 (by first | rfl | assumption) (by omega) (by omega) rfl (by omega) (by decide) ?_
  refine xk_vret (pc := 7) rfl d_Cache_setLength_7 rfl (Nat.le_of_ble_eq_true rfl) (Nat.le_of_ble_eq_true rfl) ?_
  exact hQ

set_option maxRecDepth 20000 in
set_option maxHeartbeats 4000000 in
theorem c_Cache_size {E : xk_E} {n : Nat} {m : xk_M} {r : xk_P} {Q : xk_Q} (hn : 74 ≤ n) (hS : xr_S r n) (hQ : Q (some (.inl (m 7 3))) n m r) : xk_W E m_Cache_size 0 (xk_ent m_Cache_size [.inr (some 7)]) [] n m r 0 0 Q := by
  show xk_W E m_Cache_size 0 [some (.inr (some 7))] [] n m r 0 0 Q
  refine xk_aload_n (pc := 0) d_Cache_size_0 rfl ?_
  refine xk_getI (pc := 1) d_Cache_size_1 fl_Cache_21 (by first | rfl | assumption) rfl (by omega) (by omega) ?_
  refine xk_iret (pc := 4) rfl d_Cache_size_4 rfl (Nat.le_of_ble_eq_true rfl) (Nat.le_of_ble_eq_true rfl) ?_
  exact hQ

set_option maxRecDepth 20000 in
set_option maxHeartbeats 4000000 in
theorem c_Cache_blockAt {E : xk_E} {n : Nat} {m : xk_M} {r : xk_P} {Q : xk_Q} (hn : 74 ≤ n) (hS : xr_S r n) {i : Nat} (hi : i < 5) (hQ : Q (some (.inr (r 9 i))) n m r) : xk_W E m_Cache_blockAt 0 (xk_ent m_Cache_blockAt [.inr (some 7), .inl (nI i)]) [] n m r 0 0 Q := by
  show xk_W E m_Cache_blockAt 0 [some (.inr (some 7)), some (.inl (nI i))] [] n m r 0 0 Q
  refine xk_aload_n (pc := 0) d_Cache_blockAt_0 rfl ?_
  refine xk_getRo (pc := 1) d_Cache_blockAt_1 fl_Cache_17 (by first | rfl | assumption) rfl (by omega) (by omega) (hS _ _ _ rfl (by omega)) ?_
  refine xk_iload_n (pc := 4) d_Cache_blockAt_4 rfl ?_
  refine xk_aaload (pc := 5) d_Cache_blockAt_5 (by first | rfl | assumption) (by decide) (by decide) (by omega) (by omega) rfl (by omega) (by decide) ?_
  refine xk_aret (pc := 6) rfl d_Cache_blockAt_6 rfl (Nat.le_of_ble_eq_true rfl) (Nat.le_of_ble_eq_true rfl) ?_
  exact hQ

set_option maxRecDepth 20000 in
set_option maxHeartbeats 4000000 in
theorem c_Block_isOf {E : xk_E} {n : Nat} {m : xk_M} {r : xk_P} {Q : xk_Q} (hn : 74 ≤ n) (hS : xr_S r n) {a fx bx f b : Nat} (hk : xk_kd a = .inl 0) (ha : 1 ≤ a) (han : a < n) (e0 : m a 0 = nI fx) (e1 : m a 1 = nI bx) (b0 : fx < 2 ^ 30) (b1 : bx < 2 ^ 30) (b2 : f < 2 ^ 30) (b3 : b < 2 ^ 30) (h1 : fx = f → bx = b → Q (some (.inl (nI 1))) n m r) (h0 : ¬ (fx = f ∧ bx = b) → Q (some (.inl (nI 0))) n m r) : xk_W E m_Block_isOf 0 (xk_ent m_Block_isOf [.inr (some a), .inl (nI f), .inl (nI b)]) [] n m r 0 0 Q := by
  show xk_W E m_Block_isOf 0 [some (.inr (some a)), some (.inl (nI f)), some (.inl (nI b))] [] n m r 0 0 Q
  refine xk_aload_n (pc := 0) d_Block_isOf_0 rfl ?_
  refine xk_getIo (pc := 1) d_Block_isOf_1 fl_Block_9 (by first | rfl | assumption) rfl (by omega) (by omega) e0 ?_
  refine xk_iload_n (pc := 4) d_Block_isOf_4 rfl ?_
  first | refine xk_icmp_neN (pc := 5) (tgt := 20) d_Block_isOf_5 rfl (by omega) (by omega) (fun c_5 => ?_) (fun c_5 => ?_) | refine xk_icmp_ne (pc := 5) (tgt := 20) d_Block_isOf_5 rfl (fun c_5 => ?_) (fun c_5 => ?_)
  · refine xk_iconst (pc := 20) (v := nI 0) d_Block_isOf_20 (by decide) ?_
    refine xk_zret (pc := 21) rfl d_Block_isOf_21 rfl rfl (Nat.le_of_ble_eq_true rfl) (Nat.le_of_ble_eq_true rfl) ?_
    first | exact h0 (fun q => c_5 q.1) | exact h0 (fun q => c_13 q.2)
  · refine xk_aload_n (pc := 8) d_Block_isOf_8 rfl ?_
    refine xk_getIo (pc := 9) d_Block_isOf_9 fl_Block_15 (by first | rfl | assumption) rfl (by omega) (by omega) e1 ?_
    refine xk_iload_n (pc := 12) d_Block_isOf_12 rfl ?_
    first | refine xk_icmp_neN (pc := 13) (tgt := 20) d_Block_isOf_13 rfl (by omega) (by omega) (fun c_13 => ?_) (fun c_13 => ?_) | refine xk_icmp_ne (pc := 13) (tgt := 20) d_Block_isOf_13 rfl (fun c_13 => ?_) (fun c_13 => ?_)
    · refine xk_iconst (pc := 20) (v := nI 0) d_Block_isOf_20 (by decide) ?_
      refine xk_zret (pc := 21) rfl d_Block_isOf_21 rfl rfl (Nat.le_of_ble_eq_true rfl) (Nat.le_of_ble_eq_true rfl) ?_
      first | exact h0 (fun q => c_5 q.1) | exact h0 (fun q => c_13 q.2)
    · refine xk_iconst (pc := 16) (v := nI 1) d_Block_isOf_16 (by decide) ?_
      refine xk_goto (pc := 17) (tgt := 21) d_Block_isOf_17 rfl ?_
      refine xk_zret (pc := 21) rfl d_Block_isOf_21 rfl rfl (Nat.le_of_ble_eq_true rfl) (Nat.le_of_ble_eq_true rfl) ?_
      exact h1 c_5 c_13

set_option maxRecDepth 20000 in
set_option maxHeartbeats 4000000 in
theorem c_Block_describe {E : xk_E} {n : Nat} {m : xk_M} {r : xk_P} {Q : xk_Q} (hn : 74 ≤ n) (hS : xr_S r n) {a fx bx : Nat} {dt : Bool} (hk : xk_kd a = .inl 0) (ha : 1 ≤ a) (han : a < n) (e0 : m a 0 = nI fx) (e1 : m a 1 = nI bx) (e2 : m a 2 = xs_bi dt) (hQ : Q (some (.inl (nI (fx + 8 * bx + (if dt = true then 32 else 0))))) n m r) : xk_W E m_Block_describe 0 (xk_ent m_Block_describe [.inr (some a)]) [] n m r 0 0 Q := by
  show xk_W E m_Block_describe 0 [some (.inr (some a))] [] n m r 0 0 Q
  refine xk_aload_n (pc := 0) d_Block_describe_0 rfl ?_
  refine xk_getIo (pc := 1) d_Block_describe_1 fl_Block_9 (by first | rfl | assumption) rfl (by omega) (by omega) e0 ?_
  refine xk_bipush (pc := 4) (v := nI 8) d_Block_describe_4 (by decide) ?_
  refine xk_aload_n (pc := 6) d_Block_describe_6 rfl ?_
  refine xk_getIo (pc := 7) d_Block_describe_7 fl_Block_15 (by first | rfl | assumption) rfl (by omega) (by omega) e1 ?_
  first | refine xk_imulN (pc := 10) d_Block_describe_10 ?_ | refine xk_imul (pc := 10) d_Block_describe_10 ?_
  first | refine xk_iaddN (pc := 11) d_Block_describe_11 ?_ | refine xk_iadd (pc := 11) d_Block_describe_11 ?_
  refine xk_aload_n (pc := 12) d_Block_describe_12 rfl ?_
  refine xk_getIo (pc := 13) d_Block_describe_13 fl_Block_18 (by first | rfl | assumption) rfl (by omega) (by omega) e2 ?_
  first | refine xk_if_eqN (pc := 16) (tgt := 24) d_Block_describe_16 rfl (by omega) (fun c_16 => ?_) (fun c_16 => ?_) | refine xk_if_eq (pc := 16) (tgt := 24) d_Block_describe_16 rfl (fun c_16 => ?_) (fun c_16 => ?_)
  · rw [xs_bi_z] at c_16
    subst c_16
    refine xk_iconst (pc := 24) (v := nI 0) d_Block_describe_24 (by decide) ?_
    first | refine xk_iaddN (pc := 25) d_Block_describe_25 ?_ | refine xk_iadd (pc := 25) d_Block_describe_25 ?_
    refine xk_iret (pc := 26) rfl d_Block_describe_26 rfl (Nat.le_of_ble_eq_true rfl) (Nat.le_of_ble_eq_true rfl) ?_
    exact hQ
  · have c_17 := xs_bi_nz c_16
    subst c_17
    refine xk_bipush (pc := 19) (v := nI 32) d_Block_describe_19 (by decide) ?_
    refine xk_goto (pc := 21) (tgt := 25) d_Block_describe_21 rfl ?_
    first | refine xk_iaddN (pc := 25) d_Block_describe_25 ?_ | refine xk_iadd (pc := 25) d_Block_describe_25 ?_
    refine xk_iret (pc := 26) rfl d_Block_describe_26 rfl (Nat.le_of_ble_eq_true rfl) (Nat.le_of_ble_eq_true rfl) ?_
    exact hQ

set_option maxRecDepth 20000 in
set_option maxHeartbeats 4000000 in
theorem l_find {E : xk_E} {n : Nat} {r : xk_P} {Q : xk_Q} {m : xk_M} {l : List xs_B} {β : Nat → Nat} (hn : 74 ≤ n) (hS : xr_S r n) (hz : m 7 3 = nI l.length) (hl5 : l.length ≤ 5) (hβ : ∀ i, i < 5 → β i < 5 ∧ r 9 i = some (10 + 2 * β i)) (hB : ∀ (i : Nat) (x : xs_B), l[i]? = some x → xr_B x (10 + 2 * β i) m) (hok : ∀ (i : Nat) (x : xs_B), l[i]? = some x → x.1 < 8 ∧ x.2.1 < 4) {f b : Nat} (hf : f < 8) (hb : b < 4) (h1 : ∀ i, l.findIdx? (xs_is f b) = some i → i < l.length → Q (some (.inl (nI i))) n m r) (h0 : l.findIdx? (xs_is f b) = none → Q (some (.inl (-1))) n m r) : ∀ (k : Nat) (i : Nat), l.length - i < k → i ≤ l.length → (∀ (j : Nat) (y : xs_B), j < i → l[j]? = some y → xs_is f b y = false) → xk_W E m_Cache_find 2 [some (.inr (some 7)), some (.inl (nI f)), some (.inl (nI b)), some (.inl (nI i))] [] n m r 0 0 Q := by
  intro k
  induction k with
  | zero => intro i h; exact absurd h (Nat.not_lt_zero _)
  | succ k ih =>
    intro i hk hi hj
    refine xk_iload_n (pc := 2) d_Cache_find_2 rfl ?_
    refine xk_aload_n (pc := 3) d_Cache_find_3 rfl ?_
    refine xk_getIo (pc := 4) d_Cache_find_4 fl_Cache_21 (by first | rfl | assumption) rfl (by omega) (by omega) hz ?_
    first | refine xk_icmp_geN (pc := 7) (tgt := 32) d_Cache_find_7 rfl (by omega) (by omega) (fun c_7 => ?_) (fun c_7 => ?_) | refine xk_icmp_ge (pc := 7) (tgt := 32) d_Cache_find_7 rfl (fun c_7 => ?_) (fun c_7 => ?_)
    · refine xk_iconst (pc := 32) (v := (-1)) d_Cache_find_32 (by decide) ?_
      refine xk_iret (pc := 33) rfl d_Cache_find_33 rfl (Nat.le_of_ble_eq_true rfl) (Nat.le_of_ble_eq_true rfl) ?_
      exact h0 (xs_fi_none (fun j y hy => hj j y (by have := xs_lt hy; omega) hy))
    · have hi5 : i < 5 := by omega
      obtain ⟨hb5, hr9⟩ := hβ i hi5
      obtain ⟨x, hx⟩ := xs_get_lt (l := l) c_7
      obtain ⟨hB0, hB1, hB2, hB3⟩ := hB i x hx
      obtain ⟨hx8, hx4⟩ := hok i x hx
      have hkb := xr_kd_blk _ hb5
      refine xk_aload_n (pc := 10) d_Cache_find_10 rfl ?_
      refine xk_getRo (pc := 11) d_Cache_find_11 fl_Cache_17 (by first | rfl | assumption) rfl (by omega) (by omega) (hS _ _ _ rfl (by omega)) ?_
      refine xk_iload_n (pc := 14) d_Cache_find_14 rfl ?_
      refine xk_aaloado (pc := 15) d_Cache_find_15 (by first | rfl | assumption) (by decide) (by decide) (by omega) (by omega) rfl (by omega) (by decide) hr9 ?_
      refine xk_iload_n (pc := 16) d_Cache_find_16 rfl ?_
      refine xk_iload_n (pc := 17) d_Cache_find_17 rfl ?_
      refine xk_cV2 (pc := 18) d_Cache_find_18 ml_Cache_59 cz_Block_isOf ⟨rfl, rfl⟩ rfl (by first | rfl | assumption) (by omega) (by omega) (Nat.le_of_ble_eq_true rfl) ⟨(Nat.le_of_ble_eq_true rfl), (Nat.le_of_ble_eq_true rfl)⟩ ?_
      refine c_Block_isOf hn hS hkb (by omega) (by omega) hB0 hB1 (by omega) (by omega) (by omega) (by omega) (fun e1 e2 => ?_) (fun e => ?_)
      · refine xk_if_eq (pc := 21) (tgt := 26) d_Cache_find_21 rfl (fun h => absurd h (by decide)) (fun _ => ?_)
        refine xk_iload_n (pc := 24) d_Cache_find_24 rfl ?_
        refine xk_iret (pc := 25) rfl d_Cache_find_25 rfl (Nat.le_of_ble_eq_true rfl) (Nat.le_of_ble_eq_true rfl) ?_
        exact h1 i (xs_fi_some hx (by unfold xs_is; simp [e1, e2]) hj) c_7
      · refine xk_if_eq (pc := 21) (tgt := 26) d_Cache_find_21 rfl (fun _ => ?_) (fun h => absurd (by decide) h)
        refine xk_iincN (pc := 26) (d := 1) d_Cache_find_26 rfl ?_
        refine xk_goto (pc := 29) (tgt := 2) d_Cache_find_29 rfl ?_
        exact ih (i + 1) (by omega) (by omega) (fun j y hji hy => by
          by_cases e3 : j = i
          · subst e3
            cases hx.symm.trans hy
            unfold xs_is
            exact decide_eq_false e
          · exact hj j y (by omega) hy)

set_option maxRecDepth 20000 in
set_option maxHeartbeats 4000000 in
theorem c_Cache_find {E : xk_E} {n : Nat} {m : xk_M} {r : xk_P} {Q : xk_Q} (hn : 74 ≤ n) (hS : xr_S r n) {F : xs_F} (hF : xr_F F m r) (hok : xs_okF F) {f b : Nat} (hf : f < 8) (hb : b < 4) (h1 : ∀ i, F.2.2.findIdx? (xs_is f b) = some i → i < F.2.2.length → Q (some (.inl (nI i))) n m r) (h0 : F.2.2.findIdx? (xs_is f b) = none → Q (some (.inl (-1))) n m r) : xk_W E m_Cache_find 0 (xk_ent m_Cache_find [.inr (some 7), .inl (nI f), .inl (nI b)]) [] n m r 0 0 Q := by
  show xk_W E m_Cache_find 0 [some (.inr (some 7)), some (.inl (nI f)), some (.inl (nI b)), none] [] n m r 0 0 Q
  refine xk_iconst (pc := 0) (v := nI 0) d_Cache_find_0 (by decide) ?_
  refine xk_istore_n (pc := 1) d_Cache_find_1 (by decide) ?_
  obtain ⟨hz, hl5, β, hβ, hinj, hB⟩ := hF.2.2
  exact l_find hn hS hz hl5 hβ hB (fun i x hx => ⟨(hok.2.2.1 i x hx).1, (hok.2.2.1 i x hx).2.1⟩) hf hb h1 h0 (F.2.2.length + 1) 0 (by omega) (by omega) (fun j y h => absurd h (Nat.not_lt_zero _))

set_option maxRecDepth 20000 in
set_option maxHeartbeats 4000000 in
theorem l_holdsFile {E : xk_E} {n : Nat} {r : xk_P} {Q : xk_Q} {m : xk_M} {l : List xs_B} {β : Nat → Nat} (hn : 74 ≤ n) (hS : xr_S r n) (hz : m 7 3 = nI l.length) (hl5 : l.length ≤ 5) (hβ : ∀ i, i < 5 → β i < 5 ∧ r 9 i = some (10 + 2 * β i)) (hB : ∀ (i : Nat) (x : xs_B), l[i]? = some x → xr_B x (10 + 2 * β i) m) (hok : ∀ (i : Nat) (x : xs_B), l[i]? = some x → x.1 < 8 ∧ x.2.1 < 4) {f : Nat} (hf : f < 8) (h1 : l.any (fun x => decide (x.1 = f)) = true → Q (some (.inl (nI 1))) n m r) (h0 : l.any (fun x => decide (x.1 = f)) = false → Q (some (.inl (nI 0))) n m r) : ∀ (k : Nat) (i : Nat), l.length - i < k → i ≤ l.length → (∀ (j : Nat) (y : xs_B), j < i → l[j]? = some y → ¬ y.1 = f) → xk_W E m_Cache_holdsFile 2 [some (.inr (some 7)), some (.inl (nI f)), some (.inl (nI i))] [] n m r 0 0 Q := by
  intro k
  induction k with
  | zero => intro i h; exact absurd h (Nat.not_lt_zero _)
  | succ k ih =>
    intro i hk hi hj
    refine xk_iload_n (pc := 2) d_Cache_holdsFile_2 rfl ?_
    refine xk_aload_n (pc := 3) d_Cache_holdsFile_3 rfl ?_
    refine xk_getIo (pc := 4) d_Cache_holdsFile_4 fl_Cache_21 (by first | rfl | assumption) rfl (by omega) (by omega) hz ?_
    first | refine xk_icmp_geN (pc := 7) (tgt := 31) d_Cache_holdsFile_7 rfl (by omega) (by omega) (fun c_7 => ?_) (fun c_7 => ?_) | refine xk_icmp_ge (pc := 7) (tgt := 31) d_Cache_holdsFile_7 rfl (fun c_7 => ?_) (fun c_7 => ?_)
    · refine xk_iconst (pc := 31) (v := nI 0) d_Cache_holdsFile_31 (by decide) ?_
      refine xk_zret (pc := 32) rfl d_Cache_holdsFile_32 rfl rfl (Nat.le_of_ble_eq_true rfl) (Nat.le_of_ble_eq_true rfl) ?_
      exact h0 (xs_any_f (fun j y hy => hj j y (by have := xs_lt hy; omega) hy))
    · have hi5 : i < 5 := by omega
      obtain ⟨hb5, hr9⟩ := hβ i hi5
      obtain ⟨x, hx⟩ := xs_get_lt (l := l) c_7
      obtain ⟨hB0, hB1, hB2, hB3⟩ := hB i x hx
      obtain ⟨hx8, hx4⟩ := hok i x hx
      have hkb := xr_kd_blk _ hb5
      refine xk_aload_n (pc := 10) d_Cache_holdsFile_10 rfl ?_
      refine xk_getRo (pc := 11) d_Cache_holdsFile_11 fl_Cache_17 (by first | rfl | assumption) rfl (by omega) (by omega) (hS _ _ _ rfl (by omega)) ?_
      refine xk_iload_n (pc := 14) d_Cache_holdsFile_14 rfl ?_
      refine xk_aaloado (pc := 15) d_Cache_holdsFile_15 (by first | rfl | assumption) (by decide) (by decide) (by omega) (by omega) rfl (by omega) (by decide) hr9 ?_
      refine xk_getIo (pc := 16) d_Cache_holdsFile_16 fl_Cache_30 (by first | rfl | assumption) rfl (by omega) (by omega) hB0 ?_
      refine xk_iload_n (pc := 19) d_Cache_holdsFile_19 rfl ?_
      first | refine xk_icmp_neN (pc := 20) (tgt := 25) d_Cache_holdsFile_20 rfl (by omega) (by omega) (fun c_20 => ?_) (fun c_20 => ?_) | refine xk_icmp_ne (pc := 20) (tgt := 25) d_Cache_holdsFile_20 rfl (fun c_20 => ?_) (fun c_20 => ?_)
      · refine xk_iincN (pc := 25) (d := 1) d_Cache_holdsFile_25 rfl ?_
        refine xk_goto (pc := 28) (tgt := 2) d_Cache_holdsFile_28 rfl ?_
        exact ih (i + 1) (by omega) (by omega) (fun j y hji hy => by
          by_cases e3 : j = i
          · subst e3
            cases hx.symm.trans hy
            exact c_20
          · exact hj j y (by omega) hy)
      · refine xk_iconst (pc := 23) (v := nI 1) d_Cache_holdsFile_23 (by decide) ?_
        refine xk_zret (pc := 24) rfl d_Cache_holdsFile_24 rfl rfl (Nat.le_of_ble_eq_true rfl) (Nat.le_of_ble_eq_true rfl) ?_
        exact h1 (xs_any_t hx c_20)

set_option maxRecDepth 20000 in
set_option maxHeartbeats 4000000 in
theorem c_Cache_holdsFile {E : xk_E} {n : Nat} {m : xk_M} {r : xk_P} {Q : xk_Q} (hn : 74 ≤ n) (hS : xr_S r n) {F : xs_F} (hF : xr_F F m r) (hok : xs_okF F) {f : Nat} (hf : f < 8) (h1 : F.2.2.any (fun x => decide (x.1 = f)) = true → Q (some (.inl (nI 1))) n m r) (h0 : F.2.2.any (fun x => decide (x.1 = f)) = false → Q (some (.inl (nI 0))) n m r) : xk_W E m_Cache_holdsFile 0 (xk_ent m_Cache_holdsFile [.inr (some 7), .inl (nI f)]) [] n m r 0 0 Q := by
  show xk_W E m_Cache_holdsFile 0 [some (.inr (some 7)), some (.inl (nI f)), none] [] n m r 0 0 Q
  refine xk_iconst (pc := 0) (v := nI 0) d_Cache_holdsFile_0 (by decide) ?_
  refine xk_istore_n (pc := 1) d_Cache_holdsFile_1 (by decide) ?_
  obtain ⟨hz, hl5, β, hβ, hinj, hB⟩ := hF.2.2
  exact l_holdsFile hn hS hz hl5 hβ hB (fun i x hx => ⟨(hok.2.2.1 i x hx).1, (hok.2.2.1 i x hx).2.1⟩) hf h1 h0 (F.2.2.length + 1) 0 (by omega) (by omega) (fun j y h => absurd h (Nat.not_lt_zero _))

theorem xs_cp_s {l : List xs_B} {i : Nat} {x : xs_B} (h : l[i]? = some x) : (l.take (i + 1)).countP (fun x => x.2.2.1) = (l.take i).countP (fun x => x.2.2.1) + (if x.2.2.1 = true then 1 else 0) := by
  rw [List.take_add_one, h, List.countP_append]
  show _ + List.countP _ [x] = _
  rw [List.countP_cons, List.countP_nil, Nat.zero_add]

set_option maxRecDepth 20000 in
set_option maxHeartbeats 4000000 in
theorem l_dirty {E : xk_E} {n : Nat} {r : xk_P} {Q : xk_Q} {m : xk_M} {l : List xs_B} {β : Nat → Nat} (hn : 74 ≤ n) (hS : xr_S r n) (hz : m 7 3 = nI l.length) (hl5 : l.length ≤ 5) (hβ : ∀ i, i < 5 → β i < 5 ∧ r 9 i = some (10 + 2 * β i)) (hB : ∀ (i : Nat) (x : xs_B), l[i]? = some x → xr_B x (10 + 2 * β i) m) (hok : ∀ (i : Nat) (x : xs_B), l[i]? = some x → x.1 < 8 ∧ x.2.1 < 4) (hQ : Q (some (.inl (nI (l.countP (fun x => x.2.2.1))))) n m r) : ∀ (k : Nat) (i : Nat), l.length - i < k → i ≤ l.length → xk_W E m_Cache_dirtyBlocks 4 [some (.inr (some 7)), some (.inl (nI ((l.take i).countP (fun x => x.2.2.1)))), some (.inl (nI i))] [] n m r 0 0 Q := by
  intro k
  induction k with
  | zero => intro i h; exact absurd h (Nat.not_lt_zero _)
  | succ k ih =>
    intro i hk hi
    refine xk_iload_n (pc := 4) d_Cache_dirtyBlocks_4 rfl ?_
    refine xk_aload_n (pc := 5) d_Cache_dirtyBlocks_5 rfl ?_
    refine xk_getIo (pc := 6) d_Cache_dirtyBlocks_6 fl_Cache_21 (by first | rfl | assumption) rfl (by omega) (by omega) hz ?_
    first | refine xk_icmp_geN (pc := 9) (tgt := 33) d_Cache_dirtyBlocks_9 rfl (by omega) (by omega) (fun c_9 => ?_) (fun c_9 => ?_) | refine xk_icmp_ge (pc := 9) (tgt := 33) d_Cache_dirtyBlocks_9 rfl (fun c_9 => ?_) (fun c_9 => ?_)
    · have e : i = l.length := by omega
      subst e
      rw [List.take_length]
      refine xk_iload_n (pc := 33) d_Cache_dirtyBlocks_33 rfl ?_
      refine xk_iret (pc := 34) rfl d_Cache_dirtyBlocks_34 rfl (Nat.le_of_ble_eq_true rfl) (Nat.le_of_ble_eq_true rfl) ?_
      exact hQ
    · have hi5 : i < 5 := by omega
      obtain ⟨hb5, hr9⟩ := hβ i hi5
      obtain ⟨x, hx⟩ := xs_get_lt (l := l) c_9
      obtain ⟨hB0, hB1, hB2, hB3⟩ := hB i x hx
      obtain ⟨hx8, hx4⟩ := hok i x hx
      have hkb := xr_kd_blk _ hb5
      refine xk_aload_n (pc := 12) d_Cache_dirtyBlocks_12 rfl ?_
      refine xk_getRo (pc := 13) d_Cache_dirtyBlocks_13 fl_Cache_17 (by first | rfl | assumption) rfl (by omega) (by omega) (hS _ _ _ rfl (by omega)) ?_
      refine xk_iload_n (pc := 16) d_Cache_dirtyBlocks_16 rfl ?_
      refine xk_aaloado (pc := 17) d_Cache_dirtyBlocks_17 (by first | rfl | assumption) (by decide) (by decide) (by omega) (by omega) rfl (by omega) (by decide) hr9 ?_
      refine xk_getIo (pc := 18) d_Cache_dirtyBlocks_18 fl_Cache_33 (by first | rfl | assumption) rfl (by omega) (by omega) hB2 ?_
      first | refine xk_if_eqN (pc := 21) (tgt := 27) d_Cache_dirtyBlocks_21 rfl (by omega) (fun c_21 => ?_) (fun c_21 => ?_) | refine xk_if_eq (pc := 21) (tgt := 27) d_Cache_dirtyBlocks_21 rfl (fun c_21 => ?_) (fun c_21 => ?_)
      · refine xk_iincN (pc := 27) (d := 1) d_Cache_dirtyBlocks_27 rfl ?_
        refine xk_goto (pc := 30) (tgt := 4) d_Cache_dirtyBlocks_30 rfl ?_
        have hc := xs_cp_s hx
        have K := ih (i + 1) (by omega) (by omega)
        rw [hc] at K
        rw [xs_bi_z] at c_21
        first | (rw [if_neg (by rw [c_21]; decide)] at K; exact K) | (rw [if_pos (by cases hq : x.2.2.1 <;> simp_all)] at K; exact K)
      · refine xk_iincN (pc := 24) (d := 1) d_Cache_dirtyBlocks_24 rfl ?_
        refine xk_iincN (pc := 27) (d := 1) d_Cache_dirtyBlocks_27 rfl ?_
        refine xk_goto (pc := 30) (tgt := 4) d_Cache_dirtyBlocks_30 rfl ?_
        have hc := xs_cp_s hx
        have K := ih (i + 1) (by omega) (by omega)
        rw [hc] at K
        rw [xs_bi_z] at c_21
        first | (rw [if_neg (by rw [c_21]; decide)] at K; exact K) | (rw [if_pos (by cases hq : x.2.2.1 <;> simp_all)] at K; exact K)

set_option maxRecDepth 20000 in
set_option maxHeartbeats 4000000 in
theorem c_Cache_dirtyBlocks {E : xk_E} {n : Nat} {m : xk_M} {r : xk_P} {Q : xk_Q} (hn : 74 ≤ n) (hS : xr_S r n) {F : xs_F} (hF : xr_F F m r) (hok : xs_okF F) (hQ : Q (some (.inl (nI (F.2.2.countP (fun x => x.2.2.1))))) n m r) : xk_W E m_Cache_dirtyBlocks 0 (xk_ent m_Cache_dirtyBlocks [.inr (some 7)]) [] n m r 0 0 Q := by
  show xk_W E m_Cache_dirtyBlocks 0 [some (.inr (some 7)), none, none] [] n m r 0 0 Q
  refine xk_iconst (pc := 0) (v := nI 0) d_Cache_dirtyBlocks_0 (by decide) ?_
  refine xk_istore_n (pc := 1) d_Cache_dirtyBlocks_1 (by decide) ?_
  refine xk_iconst (pc := 2) (v := nI 0) d_Cache_dirtyBlocks_2 (by decide) ?_
  refine xk_istore_n (pc := 3) d_Cache_dirtyBlocks_3 (by decide) ?_
  obtain ⟨hz, hl5, β, hβ, hinj, hB⟩ := hF.2.2
  exact l_dirty hn hS hz hl5 hβ hB (fun i x hx => ⟨(hok.2.2.1 i x hx).1, (hok.2.2.1 i x hx).2.1⟩) hQ (F.2.2.length + 1) 0 (by omega) (by omega)
end
section
set_option maxRecDepth 20000 in
set_option maxHeartbeats 4000000 in
theorem c_Cache_writeOut {E : xk_E} {n : Nat} {m : xk_M} {r : xk_P} {Q : xk_Q} (hn : 74 ≤ n) (hS : xr_S r n) {h : xs_H} {x : xs_B} {j ln : Nat} (hR : xr_H h m) (hops : h.2.2.2.2.1 < 2 ^ 30) (htf : h.2.2.2.2.2 < 2 ^ 30) (hhl : h.2.1 x.1 ≤ 32) (hx8 : x.1 < 8) (hx4 : x.2.1 < 4) (hln : ln ≤ 32) (hl8 : m 8 x.1 = nI ln) (hj : j < 5) (hB : xr_B x (10 + 2 * j) m)
    (h1 : h.2.2.2.2.2 = 0 → ∀ m', xr_H (xs_wrh (xs_op h 1 x.1 x.2.1).1 ln x) m' → (∀ a, a ≠ 2 → a ≠ 4 → a ≠ 5 → a ≠ 6 → a ≠ 10 + 2 * j → m' a = m a) → (∀ k, m' (10 + 2 * j) k = if k = 2 then nI 0 else m (10 + 2 * j) k) → Q (some (.inl (nI 1))) n m' r)
    (h0 : h.2.2.2.2.2 ≠ 0 → ∀ m', xr_H (xs_op h 1 x.1 x.2.1).1 m' → (∀ a, a ≠ 2 → a ≠ 6 → m' a = m a) → Q (some (.inl (nI 0))) n m' r) : xk_W E m_Cache_writeOut 0 (xk_ent m_Cache_writeOut [.inr (some 7), .inr (some (10 + 2 * j))]) [] n m r 0 0 Q := by
  show xk_W E m_Cache_writeOut 0 [some (.inr (some 7)), some (.inr (some (10 + 2 * j)))] [] n m r 0 0 Q
  obtain ⟨hB0, hB1, hB2, hB3⟩ := hB
  rw [show 10 + 2 * j + 1 = 11 + 2 * j by omega] at hB3
  have hkb := xr_kd_blk j hj
  have hkc := xr_kd_bc j hj
  refine xk_aload_n (pc := 0) d_Cache_writeOut_0 rfl ?_
  refine xk_getRo (pc := 1) d_Cache_writeOut_1 fl_Cache_25 (by first | rfl | assumption) rfl (by omega) (by omega) (hS _ _ _ rfl (by omega)) ?_
  refine xk_aload_n (pc := 4) d_Cache_writeOut_4 rfl ?_
  refine xk_getIo (pc := 5) d_Cache_writeOut_5 fl_Cache_30 (by first | rfl | assumption) rfl (by omega) (by omega) hB0 ?_
  refine xk_aload_n (pc := 8) d_Cache_writeOut_8 rfl ?_
  refine xk_getIo (pc := 9) d_Cache_writeOut_9 fl_Cache_75 (by first | rfl | assumption) rfl (by omega) (by omega) hB1 ?_
  refine xk_aload_n (pc := 12) d_Cache_writeOut_12 rfl ?_
  refine xk_getRo (pc := 13) d_Cache_writeOut_13 fl_Cache_62 (by first | rfl | assumption) rfl (by omega) (by omega) (hS _ _ _ (xr_st_blk _ hj) (by omega)) ?_
  refine xk_aload_n (pc := 16) d_Cache_writeOut_16 rfl ?_
  refine xk_getRo (pc := 17) d_Cache_writeOut_17 fl_Cache_9 (by first | rfl | assumption) rfl (by omega) (by omega) (hS _ _ _ rfl (by omega)) ?_
  refine xk_aload_n (pc := 20) d_Cache_writeOut_20 rfl ?_
  refine xk_getIo (pc := 21) d_Cache_writeOut_21 fl_Cache_30 (by first | rfl | assumption) rfl (by omega) (by omega) hB0 ?_
  refine xk_ialoado (pc := 24) d_Cache_writeOut_24 (by first | rfl | assumption) (by omega) (by omega) rfl (by omega) (by decide) hl8 ?_
  refine xk_cV4 (pc := 25) d_Cache_writeOut_25 ml_Cache_78 cz_Host_writeBlock ⟨rfl, rfl⟩ rfl (by first | rfl | assumption) (by omega) (by omega) (Nat.le_of_ble_eq_true rfl) ⟨(Nat.le_of_ble_eq_true rfl), (Nat.le_of_ble_eq_true rfl)⟩ ?_
  refine c_Host_writeBlock (dt := x.2.2.1) hn hS hR hops htf hhl hx8 hx4 hln hkc (by omega) (by omega) hB3 (fun z m1 hR1 hm1 => ?_) (fun z m1 hR1 hm1 => ?_)
  · refine xk_if_ne (pc := 28) (tgt := 33) d_Cache_writeOut_28 rfl (fun _ => ?_) (fun h => absurd h (by decide))
    refine xk_aload_n (pc := 33) d_Cache_writeOut_33 rfl ?_
    refine xk_iconst (pc := 34) (v := nI 0) d_Cache_writeOut_34 (by decide) ?_
    refine xk_putI (pc := 35) d_Cache_writeOut_35 fl_Cache_33 (by first | rfl | assumption) rfl (fun q hq h => by cases hq; first | exact absurd h (by decide) | exact ⟨rfl, rfl, rfl⟩) ⟨rfl, rfl⟩ (by omega) (by omega) ?_
    refine xk_iconst (pc := 38) (v := nI 1) d_Cache_writeOut_38 (by decide) ?_
    refine xk_zret (pc := 39) rfl d_Cache_writeOut_39 rfl rfl (Nat.le_of_ble_eq_true rfl) (Nat.le_of_ble_eq_true rfl) ?_
    refine h1 z _ (xr_H_kept hR1 ?_ ?_ ?_ ?_ ?_) (fun a e2 e4 e5 e6 ea => ?_) (fun k => ?_)
    · funext k; exact xk_up_a (by omega)
    · funext k; exact xk_up_a (by omega)
    · funext k; exact xk_up_a (by omega)
    · funext k; exact xk_up_a (by omega)
    · funext k; exact xk_up_a (by omega)
    · rw [← hm1 a e2 e4 e5 e6]; funext k; exact xk_up_a ea
    · by_cases e : k = 2
      · subst e; rw [xk_up_s, if_pos rfl]
      · rw [xk_up_k e, if_neg e, hm1 _ (by omega) (by omega) (by omega) (by omega)]
  · refine xk_if_ne (pc := 28) (tgt := 33) d_Cache_writeOut_28 rfl (fun h => absurd (by decide) h) (fun _ => ?_)
    refine xk_iconst (pc := 31) (v := nI 0) d_Cache_writeOut_31 (by decide) ?_
    refine xk_zret (pc := 32) rfl d_Cache_writeOut_32 rfl rfl (Nat.le_of_ble_eq_true rfl) (Nat.le_of_ble_eq_true rfl) ?_
    exact h0 z m1 hR1 hm1

theorem xs_wr_t {F : xs_F} {x : xs_B} (h : F.1.2.2.2.2.2 = 0) : xs_wr F x = ((xs_wrh (xs_op F.1 1 x.1 x.2.1).1 (F.2.1 x.1) x, F.2), true) := by
  unfold xs_wr
  rw [if_pos (show (xs_op F.1 1 x.1 x.2.1).2 = true from decide_eq_true h)]
  rfl
theorem xs_wr_f {F : xs_F} {x : xs_B} (h : F.1.2.2.2.2.2 ≠ 0) : xs_wr F x = (((xs_op F.1 1 x.1 x.2.1).1, F.2), false) := by
  unfold xs_wr
  rw [if_neg (show ¬ (xs_op F.1 1 x.1 x.2.1).2 = true from fun q => h (of_decide_eq_true q))]
theorem xr_B_kept {x : xs_B} {a : Nat} {m m' : xk_M} (h : xr_B x a m) (h0 : m' a = m a) (h1 : m' (a + 1) = m (a + 1)) : xr_B x a m' := by
  unfold xr_B
  rw [h0, h1]
  exact h
theorem xr_C_kept {l : List xs_B} {m m' : xk_M} {r r' : xk_P} (h : xr_C l m r) (hr : r' 9 = r 9) (h7 : m' 7 3 = m 7 3) (hm : ∀ a, 10 ≤ a → a < 20 → m' a = m a) : xr_C l m' r' := by
  obtain ⟨hz, hl5, β, hβ, hinj, hB⟩ := h
  refine ⟨h7.trans hz, hl5, β, fun i hi => ⟨(hβ i hi).1, by rw [hr]; exact (hβ i hi).2⟩, hinj, fun i x hx => ?_⟩
  have := (hβ i (by have := xs_lt hx; omega)).1
  exact xr_B_kept (hB i x hx) (hm _ (by omega) (by omega)) (hm _ (by omega) (by omega))
theorem xr_L_kept {ln : Nat → Nat} {m m' : xk_M} (h : xr_L ln m) (h8 : m' 8 = m 8) : xr_L ln m' := by
  unfold xr_L
  rw [h8]
  exact h
theorem xr_C_take {l : List xs_B} {m m' : xk_M} {r : xk_P} (h : xr_C l m r) (hl : l.length = 5) (h7 : m' 7 3 = nI 4) (hm : ∀ i, i < 5 → r 9 i ≠ r 9 4 → ∀ a, r 9 i = some a → m' a = m a ∧ m' (a + 1) = m (a + 1)) : xr_C (l.take 4) m' r := by
  obtain ⟨hz, hl5, β, hβ, hinj, hB⟩ := h
  refine ⟨by rw [List.length_take, hl]; exact h7, by rw [List.length_take]; omega, β, hβ, hinj, fun i x hx => ?_⟩
  have hi : i < 4 := by
    have := xs_lt hx
    rw [List.length_take] at this
    omega
  rw [List.getElem?_take_of_lt hi] at hx
  obtain ⟨b1, b2⟩ := hβ i (by omega)
  obtain ⟨c1, c2⟩ := hβ 4 (by omega)
  have hne : r 9 i ≠ r 9 4 := by
    rw [b2, c2]
    intro e
    have e2 := Option.some.inj e
    have := hinj i 4 (by omega) (by omega) (by omega)
    omega
  obtain ⟨g1, g2⟩ := hm i (by omega) hne _ b2
  exact xr_B_kept (hB i x hx) g1 g2

set_option maxRecDepth 20000 in
set_option maxHeartbeats 4000000 in
theorem c_Cache_makeRoom {E : xk_E} {n : Nat} {m : xk_M} {r : xk_P} {Q : xk_Q} (hn : 74 ≤ n) (hS : xr_S r n) {F : xs_F} (hF : xr_F F m r) (hok : xs_okF F) (hsm : xs_small F) (h1 : ∀ F' m', xs_rm F = (F', true) → xr_F F' m' r → (∀ a, 20 ≤ a → m' a = m a) → Q (some (.inl (nI 1))) n m' r) (h0 : ∀ F' m', xs_rm F = (F', false) → xr_F F' m' r → (∀ a, 20 ≤ a → m' a = m a) → Q (some (.inl (nI 0))) n m' r) : xk_W E m_Cache_makeRoom 0 (xk_ent m_Cache_makeRoom [.inr (some 7)]) [] n m r 0 0 Q := by
  show xk_W E m_Cache_makeRoom 0 [some (.inr (some 7)), none] [] n m r 0 0 Q
  obtain ⟨hz, hl5, β, hβ, hinj, hB⟩ := hF.2.2
  refine xk_aload_n (pc := 0) d_Cache_makeRoom_0 rfl ?_
  refine xk_getIo (pc := 1) d_Cache_makeRoom_1 fl_Cache_21 (by first | rfl | assumption) rfl (by omega) (by omega) hz ?_
  refine xk_iconst (pc := 4) (v := nI 5) d_Cache_makeRoom_4 (by decide) ?_
  first | refine xk_icmp_geN (pc := 5) (tgt := 10) d_Cache_makeRoom_5 rfl (by omega) (by omega) (fun c_5 => ?_) (fun c_5 => ?_) | refine xk_icmp_ge (pc := 5) (tgt := 10) d_Cache_makeRoom_5 rfl (fun c_5 => ?_) (fun c_5 => ?_)
  · have hlen : F.2.2.length = 5 := by omega
    obtain ⟨x, hx⟩ := xs_get_lt (l := F.2.2) (i := 4) (by omega)
    have e15 : F.2.2.length - 1 = 4 := by omega
    obtain ⟨hj, hr9'⟩ := hβ 4 (by omega)
    have hr9 : r 9 (F.2.2.length - 1) = some (10 + 2 * β 4) := by rw [e15]; exact hr9'
    have hB4 := hB 4 x hx
    have hB2 := hB4.2.2.1
    obtain ⟨hx8, hx4, hxd⟩ := hok.2.2.1 4 x hx
    have hkb := xr_kd_blk _ hj
    refine xk_aload_n (pc := 10) d_Cache_makeRoom_10 rfl ?_
    refine xk_getRo (pc := 11) d_Cache_makeRoom_11 fl_Cache_17 (by first | rfl | assumption) rfl (by omega) (by omega) (hS _ _ _ rfl (by omega)) ?_
    refine xk_aload_n (pc := 14) d_Cache_makeRoom_14 rfl ?_
    refine xk_getIo (pc := 15) d_Cache_makeRoom_15 fl_Cache_21 (by first | rfl | assumption) rfl (by omega) (by omega) hz ?_
    refine xk_iconst (pc := 18) (v := nI 1) d_Cache_makeRoom_18 (by decide) ?_
    first | refine xk_isubN (pc := 19) d_Cache_makeRoom_19 (by omega) ?_ | refine xk_isub (pc := 19) d_Cache_makeRoom_19 ?_
    refine xk_aaloado (pc := 20) d_Cache_makeRoom_20 (by first | rfl | assumption) (by decide) (by decide) (by omega) (by omega) rfl (by omega) (by decide) hr9 ?_
    refine xk_astore_n (pc := 21) d_Cache_makeRoom_21 (by decide) ?_
    refine xk_aload_n (pc := 22) d_Cache_makeRoom_22 rfl ?_
    refine xk_getIo (pc := 23) d_Cache_makeRoom_23 fl_Cache_33 (by first | rfl | assumption) rfl (by omega) (by omega) hB2 ?_
    first | refine xk_if_eqN (pc := 26) (tgt := 39) d_Cache_makeRoom_26 rfl (by omega) (fun c_26 => ?_) (fun c_26 => ?_) | refine xk_if_eq (pc := 26) (tgt := 39) d_Cache_makeRoom_26 rfl (fun c_26 => ?_) (fun c_26 => ?_)
    · rw [xs_bi_z] at c_26
      have hq7 := hz
      refine xk_aload_n (pc := 39) d_Cache_makeRoom_39 rfl ?_
      refine xk_dup (pc := 40) d_Cache_makeRoom_40 ?_
      refine xk_getIo (pc := 41) d_Cache_makeRoom_41 fl_Cache_21 (by first | rfl | assumption) rfl (by omega) (by omega) hq7 ?_
      refine xk_iconst (pc := 44) (v := nI 1) d_Cache_makeRoom_44 (by decide) ?_
      first | refine xk_isubN (pc := 45) d_Cache_makeRoom_45 (by omega) ?_ | refine xk_isub (pc := 45) d_Cache_makeRoom_45 ?_
      refine xk_putI (pc := 46) d_Cache_makeRoom_46 fl_Cache_21 (by first | rfl | assumption) rfl (fun q hq h => by cases hq; first | exact absurd h (by decide) | exact ⟨rfl, rfl, rfl⟩) ⟨rfl, rfl⟩ (by omega) (by omega) ?_
      refine xk_iconst (pc := 49) (v := nI 1) d_Cache_makeRoom_49 (by decide) ?_
      refine xk_zret (pc := 50) rfl d_Cache_makeRoom_50 rfl rfl (Nat.le_of_ble_eq_true rfl) (Nat.le_of_ble_eq_true rfl) ?_
      first
        | (have e : xs_rm F = ((F.1, F.2.1, F.2.2.take 4), true) := by
            unfold xs_rm
            rw [if_neg (by omega), hx]
            show (if x.2.2.1 = true then _ else _) = _
            rw [if_neg (by rw [c_26]; decide)]
           exact h1 _ _ e ⟨xr_H_kept hF.1 (by funext k; exact xk_up_a (by omega)) (by funext k; exact xk_up_a (by omega)) (by funext k; exact xk_up_a (by omega)) (by funext k; exact xk_up_a (by omega)) (by funext k; exact xk_up_a (by omega)), xr_L_kept hF.2.1 (by funext k; exact xk_up_a (by omega)), xr_C_take hF.2.2 hlen (by rw [xk_up_s, e15]) (fun i hi _ a ha => by
              have := (hβ i hi).2.symm.trans ha
              have := Option.some.inj this
              exact ⟨by funext k; exact xk_up_a (by omega), by funext k; exact xk_up_a (by omega)⟩)⟩ (fun a ha => by funext k; exact xk_up_a (by omega)))
        | (have e : xs_rm F = ((xs_wrh (xs_op F.1 1 x.1 x.2.1).1 (F.2.1 x.1) x, F.2.1, F.2.2.take 4), true) := by
            unfold xs_rm
            rw [if_neg (by omega), hx]
            show (if x.2.2.1 = true then _ else _) = _
            rw [if_pos c_27, xs_wr_t z]
            rfl
           exact h1 _ _ e ⟨xr_H_kept hR1 (by funext k; exact xk_up_a (by omega)) (by funext k; exact xk_up_a (by omega)) (by funext k; exact xk_up_a (by omega)) (by funext k; exact xk_up_a (by omega)) (by funext k; exact xk_up_a (by omega)), xr_L_kept hF.2.1 (by rw [← hm1 8 (by omega) (by omega) (by omega) (by omega) (by omega)]; funext k; exact xk_up_a (by omega)), xr_C_take hF.2.2 hlen (by rw [xk_up_s, e15]) (fun i hi hne a ha => by
              have h9 := (hβ i hi).2.symm.trans ha
              have h10 := Option.some.inj h9
              have h11 : β i ≠ β 4 := fun q => hne (by rw [(hβ i hi).2, hr9', q])
              have h12 := (hβ i hi).1
              exact ⟨by rw [← hm1 a (by omega) (by omega) (by omega) (by omega) (by omega)]; funext k; exact xk_up_a (by omega), by rw [← hm1 (a + 1) (by omega) (by omega) (by omega) (by omega) (by omega)]; funext k; exact xk_up_a (by omega)⟩)⟩ (fun a ha => by rw [← hm1 a (by omega) (by omega) (by omega) (by omega) (by omega)]; funext k; exact xk_up_a (by omega)))
    · have c_27 := xs_bi_nz c_26
      refine xk_aload_n (pc := 29) d_Cache_makeRoom_29 rfl ?_
      refine xk_aload_n (pc := 30) d_Cache_makeRoom_30 rfl ?_
      refine xk_cV1 (pc := 31) d_Cache_makeRoom_31 ml_Cache_49 cz_Cache_writeOut ⟨rfl, rfl⟩ rfl (by first | rfl | assumption) (by omega) (by omega) (Nat.le_of_ble_eq_true rfl) ⟨(Nat.le_of_ble_eq_true rfl), (Nat.le_of_ble_eq_true rfl)⟩ ?_
      unfold xs_small at hsm
      refine c_Cache_writeOut (h := F.1) (x := x) (ln := F.2.1 x.1) hn hS hF.1 (by omega) (by have := hok.2.2.2.2.2; omega) (by have := hok.1 x.1 hx8; omega) hx8 hx4 (hok.1 x.1 hx8).2 (hF.2.1 x.1 hx8) hj hB4 (fun z m1 hR1 hm1 hk1 => ?_) (fun z m1 hR1 hm1 => ?_)
      · have hq7 : m1 7 3 = nI F.2.2.length := by rw [hm1 7 (by omega) (by omega) (by omega) (by omega) (by omega)]; exact hz
        refine xk_if_ne (pc := 34) (tgt := 39) d_Cache_makeRoom_34 rfl (fun _ => ?_) (fun h => absurd h (by decide))
        refine xk_aload_n (pc := 39) d_Cache_makeRoom_39 rfl ?_
        refine xk_dup (pc := 40) d_Cache_makeRoom_40 ?_
        refine xk_getIo (pc := 41) d_Cache_makeRoom_41 fl_Cache_21 (by first | rfl | assumption) rfl (by omega) (by omega) hq7 ?_
        refine xk_iconst (pc := 44) (v := nI 1) d_Cache_makeRoom_44 (by decide) ?_
        first | refine xk_isubN (pc := 45) d_Cache_makeRoom_45 (by omega) ?_ | refine xk_isub (pc := 45) d_Cache_makeRoom_45 ?_
        refine xk_putI (pc := 46) d_Cache_makeRoom_46 fl_Cache_21 (by first | rfl | assumption) rfl (fun q hq h => by cases hq; first | exact absurd h (by decide) | exact ⟨rfl, rfl, rfl⟩) ⟨rfl, rfl⟩ (by omega) (by omega) ?_
        refine xk_iconst (pc := 49) (v := nI 1) d_Cache_makeRoom_49 (by decide) ?_
        refine xk_zret (pc := 50) rfl d_Cache_makeRoom_50 rfl rfl (Nat.le_of_ble_eq_true rfl) (Nat.le_of_ble_eq_true rfl) ?_
        first
          | (have e : xs_rm F = ((F.1, F.2.1, F.2.2.take 4), true) := by
              unfold xs_rm
              rw [if_neg (by omega), hx]
              show (if x.2.2.1 = true then _ else _) = _
              rw [if_neg (by rw [c_26]; decide)]
             exact h1 _ _ e ⟨xr_H_kept hF.1 (by funext k; exact xk_up_a (by omega)) (by funext k; exact xk_up_a (by omega)) (by funext k; exact xk_up_a (by omega)) (by funext k; exact xk_up_a (by omega)) (by funext k; exact xk_up_a (by omega)), xr_L_kept hF.2.1 (by funext k; exact xk_up_a (by omega)), xr_C_take hF.2.2 hlen (by rw [xk_up_s, e15]) (fun i hi _ a ha => by
                have := (hβ i hi).2.symm.trans ha
                have := Option.some.inj this
                exact ⟨by funext k; exact xk_up_a (by omega), by funext k; exact xk_up_a (by omega)⟩)⟩ (fun a ha => by funext k; exact xk_up_a (by omega)))
          | (have e : xs_rm F = ((xs_wrh (xs_op F.1 1 x.1 x.2.1).1 (F.2.1 x.1) x, F.2.1, F.2.2.take 4), true) := by
              unfold xs_rm
              rw [if_neg (by omega), hx]
              show (if x.2.2.1 = true then _ else _) = _
              rw [if_pos c_27, xs_wr_t z]
              rfl
             exact h1 _ _ e ⟨xr_H_kept hR1 (by funext k; exact xk_up_a (by omega)) (by funext k; exact xk_up_a (by omega)) (by funext k; exact xk_up_a (by omega)) (by funext k; exact xk_up_a (by omega)) (by funext k; exact xk_up_a (by omega)), xr_L_kept hF.2.1 (by rw [← hm1 8 (by omega) (by omega) (by omega) (by omega) (by omega)]; funext k; exact xk_up_a (by omega)), xr_C_take hF.2.2 hlen (by rw [xk_up_s, e15]) (fun i hi hne a ha => by
                have h9 := (hβ i hi).2.symm.trans ha
                have h10 := Option.some.inj h9
                have h11 : β i ≠ β 4 := fun q => hne (by rw [(hβ i hi).2, hr9', q])
                have h12 := (hβ i hi).1
                exact ⟨by rw [← hm1 a (by omega) (by omega) (by omega) (by omega) (by omega)]; funext k; exact xk_up_a (by omega), by rw [← hm1 (a + 1) (by omega) (by omega) (by omega) (by omega) (by omega)]; funext k; exact xk_up_a (by omega)⟩)⟩ (fun a ha => by rw [← hm1 a (by omega) (by omega) (by omega) (by omega) (by omega)]; funext k; exact xk_up_a (by omega)))
      · refine xk_if_ne (pc := 34) (tgt := 39) d_Cache_makeRoom_34 rfl (fun h => absurd (by decide) h) (fun _ => ?_)
        refine xk_iconst (pc := 37) (v := nI 0) d_Cache_makeRoom_37 (by decide) ?_
        refine xk_zret (pc := 38) rfl d_Cache_makeRoom_38 rfl rfl (Nat.le_of_ble_eq_true rfl) (Nat.le_of_ble_eq_true rfl) ?_
        have e : xs_rm F = (((xs_op F.1 1 x.1 x.2.1).1, F.2), false) := by
          unfold xs_rm
          rw [if_neg (by omega), hx]
          show (if x.2.2.1 = true then _ else _) = _
          rw [if_pos c_27, xs_wr_f z]
          rfl
        exact h0 _ m1 e ⟨hR1, xr_L_kept hF.2.1 (hm1 8 (by omega) (by omega)), xr_C_kept hF.2.2 rfl (by rw [hm1 7 (by omega) (by omega)]) (fun a _ _ => hm1 a (by omega) (by omega))⟩ (fun a _ => hm1 a (by omega) (by omega))
  · refine xk_iconst (pc := 8) (v := nI 1) d_Cache_makeRoom_8 (by decide) ?_
    refine xk_zret (pc := 9) rfl d_Cache_makeRoom_9 rfl rfl (Nat.le_of_ble_eq_true rfl) (Nat.le_of_ble_eq_true rfl) ?_
    have e : xs_rm F = (F, true) := if_pos c_5
    exact h1 F m e hF (fun _ _ => rfl)
end
section
/-- a block comes in behind the others -/
def xs_inE (F : xs_F) (f b : Nat) : xs_F × Bool :=
  if 8 * b < F.2.1 f then
    (if (xs_op F.1 0 f b).2 = true then (((xs_op F.1 0 f b).1, F.2.1, F.2.2 ++ [(f, b, false, fun k => F.1.2.2.1 f (8 * b + k))]), true) else (((xs_op F.1 0 f b).1, F.2), false))
  else ((F.1, F.2.1, F.2.2 ++ [(f, b, false, fun _ => 0)]), true)
theorem xr_C_push {l : List xs_B} {m m' : xk_M} {r : xk_P} {β : Nat → Nat} {x : xs_B} (hβ : ∀ i, i < 5 → β i < 5 ∧ r 9 i = some (10 + 2 * β i)) (hinj : ∀ i j, i < 5 → j < 5 → β i = β j → i = j) (hB : ∀ (i : Nat) (x : xs_B), l[i]? = some x → xr_B x (10 + 2 * β i) m) (hlen : l.length < 5) (hx : xr_B x (10 + 2 * β l.length) m') (h7 : m' 7 3 = nI (l.length + 1)) (hk : ∀ a, 10 ≤ a → a < 20 → a ≠ 10 + 2 * β l.length → a ≠ 11 + 2 * β l.length → m' a = m a) : xr_C (l ++ [x]) m' r := by
  refine ⟨by rw [List.length_append]; exact h7, by rw [List.length_append]; show l.length + 1 ≤ 5; omega, β, hβ, hinj, fun i y hy => ?_⟩
  by_cases hi : i < l.length
  · rw [List.getElem?_append_left hi] at hy
    have b1 := (hβ i (by omega)).1
    have hne : β i ≠ β l.length := fun q => by have := hinj i l.length (by omega) (by omega) q; omega
    exact xr_B_kept (hB i y hy) (hk _ (by omega) (by omega) (by omega) (by omega)) (hk _ (by omega) (by omega) (by omega) (by omega))
  · rw [List.getElem?_append_right (by omega)] at hy
    have h0 : i - l.length < 1 := xs_lt hy
    rw [show i - l.length = 0 by omega] at hy
    cases hy
    rw [show i = l.length by omega]
    exact hx

set_option maxRecDepth 20000 in
set_option maxHeartbeats 4000000 in
theorem c_Cache_bringIn {E : xk_E} {n : Nat} {m : xk_M} {r : xk_P} {Q : xk_Q} (hn : 74 ≤ n) (hS : xr_S r n) {F : xs_F} (hF : xr_F F m r) (hok : xs_okF F) (hsm : xs_small F) {f b : Nat} (hf : f < 8) (hb : b < 4) (hlen : F.2.2.length < 5) (h1 : ∀ F' m', xs_inE F f b = (F', true) → xr_F F' m' r → (∀ a, 20 ≤ a → m' a = m a) → Q (some (.inl (nI 1))) n m' r) (h0 : ∀ F' m', xs_inE F f b = (F', false) → xr_F F' m' r → (∀ a, 20 ≤ a → m' a = m a) → Q (some (.inl (nI 0))) n m' r) : xk_W E m_Cache_bringIn 0 (xk_ent m_Cache_bringIn [.inr (some 7), .inl (nI f), .inl (nI b)]) [] n m r 0 0 Q := by
  show xk_W E m_Cache_bringIn 0 [some (.inr (some 7)), some (.inl (nI f)), some (.inl (nI b)), none] [] n m r 0 0 Q
  obtain ⟨hz, hl5, β, hβ, hinj, hB⟩ := hF.2.2
  obtain ⟨hj, hr9⟩ := hβ F.2.2.length hlen
  have hkb := xr_kd_blk _ hj
  have hkc := xr_kd_bc _ hj
  have hlf := (hok.1 f hf).2
  refine xk_aload_n (pc := 0) d_Cache_bringIn_0 rfl ?_
  refine xk_getRo (pc := 1) d_Cache_bringIn_1 fl_Cache_17 (by first | rfl | assumption) rfl (by omega) (by omega) (hS _ _ _ rfl (by omega)) ?_
  refine xk_aload_n (pc := 4) d_Cache_bringIn_4 rfl ?_
  refine xk_getIo (pc := 5) d_Cache_bringIn_5 fl_Cache_21 (by first | rfl | assumption) rfl (by omega) (by omega) hz ?_
  refine xk_aaloado (pc := 8) d_Cache_bringIn_8 (by first | rfl | assumption) (by decide) (by decide) (by omega) (by omega) rfl (by omega) (by decide) hr9 ?_
  refine xk_astore_n (pc := 9) d_Cache_bringIn_9 (by decide) ?_
  refine xk_iload_n (pc := 10) d_Cache_bringIn_10 rfl ?_
  refine xk_bipush (pc := 11) (v := nI 8) d_Cache_bringIn_11 (by decide) ?_
  first | refine xk_imulN (pc := 13) d_Cache_bringIn_13 ?_ | refine xk_imul (pc := 13) d_Cache_bringIn_13 ?_
  refine xk_aload_n (pc := 14) d_Cache_bringIn_14 rfl ?_
  refine xk_getRo (pc := 15) d_Cache_bringIn_15 fl_Cache_9 (by first | rfl | assumption) rfl (by omega) (by omega) (hS _ _ _ rfl (by omega)) ?_
  refine xk_iload_n (pc := 18) d_Cache_bringIn_18 rfl ?_
  refine xk_ialoado (pc := 19) d_Cache_bringIn_19 (by first | rfl | assumption) (by omega) (by omega) rfl (by omega) (by decide) (hF.2.1 f hf) ?_
  first | refine xk_icmp_ltN (pc := 20) (tgt := 34) d_Cache_bringIn_20 rfl (by omega) (by omega) (fun c_20 => ?_) (fun c_20 => ?_) | refine xk_icmp_lt (pc := 20) (tgt := 34) d_Cache_bringIn_20 rfl (fun c_20 => ?_) (fun c_20 => ?_)
  · refine xk_aload_n (pc := 34) d_Cache_bringIn_34 rfl ?_
    refine xk_getRo (pc := 35) d_Cache_bringIn_35 fl_Cache_25 (by first | rfl | assumption) rfl (by omega) (by omega) (hS _ _ _ rfl (by omega)) ?_
    refine xk_iload_n (pc := 38) d_Cache_bringIn_38 rfl ?_
    refine xk_iload_n (pc := 39) d_Cache_bringIn_39 rfl ?_
    refine xk_aload_n (pc := 40) d_Cache_bringIn_40 rfl ?_
    refine xk_getRo (pc := 41) d_Cache_bringIn_41 fl_Cache_62 (by first | rfl | assumption) rfl (by omega) (by omega) (hS _ _ _ (xr_st_blk _ hj) (by omega)) ?_
    refine xk_cV3 (pc := 44) d_Cache_bringIn_44 ml_Cache_71 cz_Host_readBlock ⟨rfl, rfl⟩ rfl (by first | rfl | assumption) (by omega) (by omega) (Nat.le_of_ble_eq_true rfl) ⟨(Nat.le_of_ble_eq_true rfl), (Nat.le_of_ble_eq_true rfl)⟩ ?_
    unfold xs_small at hsm
    refine c_Host_readBlock (h := F.1) (d := 11 + 2 * β F.2.2.length) hn hS hF.1 (by omega) (by have := hok.2.2.2.2.2; omega) hf hb hkc (by omega) (by omega) (fun z m1 hR1 hd1 hm1 => ?_) (fun z m1 hR1 hm1 => ?_)
    · have hq7 : xk_up (xk_up (xk_up m1 (10 + 2 * β F.2.2.length) 0 (nI f)) (10 + 2 * β F.2.2.length) 1 (nI b)) (10 + 2 * β F.2.2.length) 2 (nI 0) 7 3 = nI F.2.2.length := by
        rw [xk_up_a (by omega), xk_up_a (by omega), xk_up_a (by omega), hm1 7 (by omega) (by omega) (by omega)]; exact hz
      refine xk_if_ne (pc := 47) (tgt := 52) d_Cache_bringIn_47 rfl (fun _ => ?_) (fun h => absurd h (by decide))
      refine xk_aload_n (pc := 52) d_Cache_bringIn_52 rfl ?_
      refine xk_iload_n (pc := 53) d_Cache_bringIn_53 rfl ?_
      refine xk_putI (pc := 54) d_Cache_bringIn_54 fl_Cache_30 (by first | rfl | assumption) rfl (fun q hq h => by cases hq; first | exact absurd h (by decide) | exact ⟨rfl, rfl, rfl⟩) ⟨rfl, rfl⟩ (by omega) (by omega) ?_
      refine xk_aload_n (pc := 57) d_Cache_bringIn_57 rfl ?_
      refine xk_iload_n (pc := 58) d_Cache_bringIn_58 rfl ?_
      refine xk_putI (pc := 59) d_Cache_bringIn_59 fl_Cache_75 (by first | rfl | assumption) rfl (fun q hq h => by cases hq; first | exact absurd h (by decide) | exact ⟨rfl, rfl, rfl⟩) ⟨rfl, rfl⟩ (by omega) (by omega) ?_
      refine xk_aload_n (pc := 62) d_Cache_bringIn_62 rfl ?_
      refine xk_iconst (pc := 63) (v := nI 0) d_Cache_bringIn_63 (by decide) ?_
      refine xk_putI (pc := 64) d_Cache_bringIn_64 fl_Cache_33 (by first | rfl | assumption) rfl (fun q hq h => by cases hq; first | exact absurd h (by decide) | exact ⟨rfl, rfl, rfl⟩) ⟨rfl, rfl⟩ (by omega) (by omega) ?_
      refine xk_aload_n (pc := 67) d_Cache_bringIn_67 rfl ?_
      refine xk_dup (pc := 68) d_Cache_bringIn_68 ?_
      refine xk_getIo (pc := 69) d_Cache_bringIn_69 fl_Cache_21 (by first | rfl | assumption) rfl (by omega) (by omega) hq7 ?_
      refine xk_iconst (pc := 72) (v := nI 1) d_Cache_bringIn_72 (by decide) ?_
      first | refine xk_iaddN (pc := 73) d_Cache_bringIn_73 ?_ | refine xk_iadd (pc := 73) d_Cache_bringIn_73 ?_
      refine xk_putI (pc := 74) d_Cache_bringIn_74 fl_Cache_21 (by first | rfl | assumption) rfl (fun q hq h => by cases hq; first | exact absurd h (by decide) | exact ⟨rfl, rfl, rfl⟩) ⟨rfl, rfl⟩ (by omega) (by omega) ?_
      refine xk_iconst (pc := 77) (v := nI 1) d_Cache_bringIn_77 (by decide) ?_
      refine xk_zret (pc := 78) rfl d_Cache_bringIn_78 rfl rfl (Nat.le_of_ble_eq_true rfl) (Nat.le_of_ble_eq_true rfl) ?_
      first
        | (have e : xs_inE F f b = ((F.1, F.2.1, F.2.2 ++ [(f, b, false, fun _ => 0)]), true) := if_neg (by omega)
           have hx : xr_B (f, b, false, fun _ => 0) (10 + 2 * β F.2.2.length) (xk_up (xk_up (xk_up (xk_up (xk_fill m (11 + 2 * β F.2.2.length) 0 8 (nI 0)) (10 + 2 * β F.2.2.length) 0 (nI f)) (10 + 2 * β F.2.2.length) 1 (nI b)) (10 + 2 * β F.2.2.length) 2 (nI 0)) 7 3 (nI (F.2.2.length + 1))) := by
             refine ⟨?_, ?_, ?_, fun k hk => ?_⟩
             · rw [xk_up_a (by omega), xk_up_k (by decide), xk_up_k (by decide), xk_up_s]
             · rw [xk_up_a (by omega), xk_up_k (by decide), xk_up_s]
             · rw [xk_up_a (by omega), xk_up_s]; rfl
             · rw [xk_up_a (by omega), xk_up_a (by omega), xk_up_a (by omega), xk_up_a (by omega), show 10 + 2 * β F.2.2.length + 1 = 11 + 2 * β F.2.2.length by omega]
               unfold xk_fill; rw [if_pos ⟨rfl, by omega, by omega⟩]; rfl
           have fr : ∀ a, a ≠ 7 → a ≠ 10 + 2 * β F.2.2.length → a ≠ 11 + 2 * β F.2.2.length → (xk_up (xk_up (xk_up (xk_up (xk_fill m (11 + 2 * β F.2.2.length) 0 8 (nI 0)) (10 + 2 * β F.2.2.length) 0 (nI f)) (10 + 2 * β F.2.2.length) 1 (nI b)) (10 + 2 * β F.2.2.length) 2 (nI 0)) 7 3 (nI (F.2.2.length + 1))) a = m a := fun a a7 a0 a1 => by
              funext k
              rw [xk_up_a a7, xk_up_a a0, xk_up_a a0, xk_up_a a0, xk_fill_a a1]
           exact h1 _ _ e ⟨xr_H_kept hF.1 (fr _ (by omega) (by omega) (by omega)) (fr _ (by omega) (by omega) (by omega)) (fr _ (by omega) (by omega) (by omega)) (fr _ (by omega) (by omega) (by omega)) (fr _ (by omega) (by omega) (by omega)), xr_L_kept hF.2.1 (fr _ (by omega) (by omega) (by omega)), xr_C_push hβ hinj hB hlen hx (xk_up_s) (fun a _ _ a0 a1 => fr a (by omega) a0 a1)⟩ (fun a ha => fr a (by omega) (by omega) (by omega)))
        | (have e : xs_inE F f b = (((xs_op F.1 0 f b).1, F.2.1, F.2.2 ++ [(f, b, false, fun k => F.1.2.2.1 f (8 * b + k))]), true) := by
            unfold xs_inE
            rw [if_pos (by omega), if_pos (show (xs_op F.1 0 f b).2 = true from decide_eq_true z)]
           have hx : xr_B (f, b, false, fun k => F.1.2.2.1 f (8 * b + k)) (10 + 2 * β F.2.2.length) (xk_up (xk_up (xk_up (xk_up m1 (10 + 2 * β F.2.2.length) 0 (nI f)) (10 + 2 * β F.2.2.length) 1 (nI b)) (10 + 2 * β F.2.2.length) 2 (nI 0)) 7 3 (nI (F.2.2.length + 1))) := by
             refine ⟨?_, ?_, ?_, fun k hk => ?_⟩
             · rw [xk_up_a (by omega), xk_up_k (by decide), xk_up_k (by decide), xk_up_s]
             · rw [xk_up_a (by omega), xk_up_k (by decide), xk_up_s]
             · rw [xk_up_a (by omega), xk_up_s]; rfl
             · rw [xk_up_a (by omega), xk_up_a (by omega), xk_up_a (by omega), xk_up_a (by omega), show 10 + 2 * β F.2.2.length + 1 = 11 + 2 * β F.2.2.length by omega]
               exact hd1 k hk
           have fr : ∀ a, a ≠ 7 → a ≠ 10 + 2 * β F.2.2.length → (xk_up (xk_up (xk_up (xk_up m1 (10 + 2 * β F.2.2.length) 0 (nI f)) (10 + 2 * β F.2.2.length) 1 (nI b)) (10 + 2 * β F.2.2.length) 2 (nI 0)) 7 3 (nI (F.2.2.length + 1))) a = m1 a := fun a a7 a0 => by
              funext k
              rw [xk_up_a a7, xk_up_a a0, xk_up_a a0, xk_up_a a0]
           exact h1 _ _ e ⟨xr_H_kept hR1 (fr _ (by omega) (by omega)) (fr _ (by omega) (by omega)) (fr _ (by omega) (by omega)) (fr _ (by omega) (by omega)) (fr _ (by omega) (by omega)), xr_L_kept hF.2.1 ((fr _ (by omega) (by omega)).trans (hm1 8 (by omega) (by omega) (by omega))), xr_C_push hβ hinj hB hlen hx (xk_up_s) (fun a _ _ a0 a1 => (fr a (by omega) a0).trans (hm1 a (by omega) (by omega) a1))⟩ (fun a ha => (fr a (by omega) (by omega)).trans (hm1 a (by omega) (by omega) (by omega))))
    · refine xk_if_ne (pc := 47) (tgt := 52) d_Cache_bringIn_47 rfl (fun h => absurd (by decide) h) (fun _ => ?_)
      refine xk_iconst (pc := 50) (v := nI 0) d_Cache_bringIn_50 (by decide) ?_
      refine xk_zret (pc := 51) rfl d_Cache_bringIn_51 rfl rfl (Nat.le_of_ble_eq_true rfl) (Nat.le_of_ble_eq_true rfl) ?_
      have e : xs_inE F f b = (((xs_op F.1 0 f b).1, F.2), false) := by
        unfold xs_inE
        rw [if_pos (by omega), if_neg (show ¬ (xs_op F.1 0 f b).2 = true from fun q => z (of_decide_eq_true q))]
      exact h0 _ m1 e ⟨hR1, xr_L_kept hF.2.1 (hm1 8 (by omega) (by omega)), xr_C_kept hF.2.2 rfl (by rw [hm1 7 (by omega) (by omega)]) (fun a _ _ => hm1 a (by omega) (by omega))⟩ (fun a _ => hm1 a (by omega) (by omega))
  · refine xk_aload_n (pc := 23) d_Cache_bringIn_23 rfl ?_
    refine xk_getRo (pc := 24) d_Cache_bringIn_24 fl_Cache_62 (by first | rfl | assumption) rfl (by omega) (by omega) (hS _ _ _ (xr_st_blk _ hj) (by omega)) ?_
    refine xk_iconst (pc := 27) (v := nI 0) d_Cache_bringIn_27 (by decide) ?_
    refine xk_cS2 (pc := 28) d_Cache_bringIn_28 ml_Cache_65 cz_Arr_fill2 ⟨rfl, rfl⟩ rfl (Nat.le_of_ble_eq_true rfl) ⟨(Nat.le_of_ble_eq_true rfl), (Nat.le_of_ble_eq_true rfl)⟩ ?_
    refine c_Arr_fill2 hkc (by omega) (by omega) (by decide) ?_
    have hq7 : xk_up (xk_up (xk_up (xk_fill m (11 + 2 * β F.2.2.length) 0 8 (nI 0)) (10 + 2 * β F.2.2.length) 0 (nI f)) (10 + 2 * β F.2.2.length) 1 (nI b)) (10 + 2 * β F.2.2.length) 2 (nI 0) 7 3 = nI F.2.2.length := by
      rw [xk_up_a (by omega), xk_up_a (by omega), xk_up_a (by omega), xk_fill_a (by omega)]; exact hz
    refine xk_goto (pc := 31) (tgt := 52) d_Cache_bringIn_31 rfl ?_
    refine xk_aload_n (pc := 52) d_Cache_bringIn_52 rfl ?_
    refine xk_iload_n (pc := 53) d_Cache_bringIn_53 rfl ?_
    refine xk_putI (pc := 54) d_Cache_bringIn_54 fl_Cache_30 (by first | rfl | assumption) rfl (fun q hq h => by cases hq; first | exact absurd h (by decide) | exact ⟨rfl, rfl, rfl⟩) ⟨rfl, rfl⟩ (by omega) (by omega) ?_
    refine xk_aload_n (pc := 57) d_Cache_bringIn_57 rfl ?_
    refine xk_iload_n (pc := 58) d_Cache_bringIn_58 rfl ?_
    refine xk_putI (pc := 59) d_Cache_bringIn_59 fl_Cache_75 (by first | rfl | assumption) rfl (fun q hq h => by cases hq; first | exact absurd h (by decide) | exact ⟨rfl, rfl, rfl⟩) ⟨rfl, rfl⟩ (by omega) (by omega) ?_
    refine xk_aload_n (pc := 62) d_Cache_bringIn_62 rfl ?_
    refine xk_iconst (pc := 63) (v := nI 0) d_Cache_bringIn_63 (by decide) ?_
    refine xk_putI (pc := 64) d_Cache_bringIn_64 fl_Cache_33 (by first | rfl | assumption) rfl (fun q hq h => by cases hq; first | exact absurd h (by decide) | exact ⟨rfl, rfl, rfl⟩) ⟨rfl, rfl⟩ (by omega) (by omega) ?_
    refine xk_aload_n (pc := 67) d_Cache_bringIn_67 rfl ?_
    refine xk_dup (pc := 68) d_Cache_bringIn_68 ?_
    refine xk_getIo (pc := 69) d_Cache_bringIn_69 fl_Cache_21 (by first | rfl | assumption) rfl (by omega) (by omega) hq7 ?_
    refine xk_iconst (pc := 72) (v := nI 1) d_Cache_bringIn_72 (by decide) ?_
    first | refine xk_iaddN (pc := 73) d_Cache_bringIn_73 ?_ | refine xk_iadd (pc := 73) d_Cache_bringIn_73 ?_
    refine xk_putI (pc := 74) d_Cache_bringIn_74 fl_Cache_21 (by first | rfl | assumption) rfl (fun q hq h => by cases hq; first | exact absurd h (by decide) | exact ⟨rfl, rfl, rfl⟩) ⟨rfl, rfl⟩ (by omega) (by omega) ?_
    refine xk_iconst (pc := 77) (v := nI 1) d_Cache_bringIn_77 (by decide) ?_
    refine xk_zret (pc := 78) rfl d_Cache_bringIn_78 rfl rfl (Nat.le_of_ble_eq_true rfl) (Nat.le_of_ble_eq_true rfl) ?_
    first
      | (have e : xs_inE F f b = ((F.1, F.2.1, F.2.2 ++ [(f, b, false, fun _ => 0)]), true) := if_neg (by omega)
         have hx : xr_B (f, b, false, fun _ => 0) (10 + 2 * β F.2.2.length) (xk_up (xk_up (xk_up (xk_up (xk_fill m (11 + 2 * β F.2.2.length) 0 8 (nI 0)) (10 + 2 * β F.2.2.length) 0 (nI f)) (10 + 2 * β F.2.2.length) 1 (nI b)) (10 + 2 * β F.2.2.length) 2 (nI 0)) 7 3 (nI (F.2.2.length + 1))) := by
           refine ⟨?_, ?_, ?_, fun k hk => ?_⟩
           · rw [xk_up_a (by omega), xk_up_k (by decide), xk_up_k (by decide), xk_up_s]
           · rw [xk_up_a (by omega), xk_up_k (by decide), xk_up_s]
           · rw [xk_up_a (by omega), xk_up_s]; rfl
           · rw [xk_up_a (by omega), xk_up_a (by omega), xk_up_a (by omega), xk_up_a (by omega), show 10 + 2 * β F.2.2.length + 1 = 11 + 2 * β F.2.2.length by omega]
             unfold xk_fill; rw [if_pos ⟨rfl, by omega, by omega⟩]; rfl
         have fr : ∀ a, a ≠ 7 → a ≠ 10 + 2 * β F.2.2.length → a ≠ 11 + 2 * β F.2.2.length → (xk_up (xk_up (xk_up (xk_up (xk_fill m (11 + 2 * β F.2.2.length) 0 8 (nI 0)) (10 + 2 * β F.2.2.length) 0 (nI f)) (10 + 2 * β F.2.2.length) 1 (nI b)) (10 + 2 * β F.2.2.length) 2 (nI 0)) 7 3 (nI (F.2.2.length + 1))) a = m a := fun a a7 a0 a1 => by
            funext k
            rw [xk_up_a a7, xk_up_a a0, xk_up_a a0, xk_up_a a0, xk_fill_a a1]
         exact h1 _ _ e ⟨xr_H_kept hF.1 (fr _ (by omega) (by omega) (by omega)) (fr _ (by omega) (by omega) (by omega)) (fr _ (by omega) (by omega) (by omega)) (fr _ (by omega) (by omega) (by omega)) (fr _ (by omega) (by omega) (by omega)), xr_L_kept hF.2.1 (fr _ (by omega) (by omega) (by omega)), xr_C_push hβ hinj hB hlen hx (xk_up_s) (fun a _ _ a0 a1 => fr a (by omega) a0 a1)⟩ (fun a ha => fr a (by omega) (by omega) (by omega)))
      | (have e : xs_inE F f b = (((xs_op F.1 0 f b).1, F.2.1, F.2.2 ++ [(f, b, false, fun k => F.1.2.2.1 f (8 * b + k))]), true) := by
          unfold xs_inE
          rw [if_pos (by omega), if_pos (show (xs_op F.1 0 f b).2 = true from decide_eq_true z)]
         have hx : xr_B (f, b, false, fun k => F.1.2.2.1 f (8 * b + k)) (10 + 2 * β F.2.2.length) (xk_up (xk_up (xk_up (xk_up m1 (10 + 2 * β F.2.2.length) 0 (nI f)) (10 + 2 * β F.2.2.length) 1 (nI b)) (10 + 2 * β F.2.2.length) 2 (nI 0)) 7 3 (nI (F.2.2.length + 1))) := by
           refine ⟨?_, ?_, ?_, fun k hk => ?_⟩
           · rw [xk_up_a (by omega), xk_up_k (by decide), xk_up_k (by decide), xk_up_s]
           · rw [xk_up_a (by omega), xk_up_k (by decide), xk_up_s]
           · rw [xk_up_a (by omega), xk_up_s]; rfl
           · rw [xk_up_a (by omega), xk_up_a (by omega), xk_up_a (by omega), xk_up_a (by omega), show 10 + 2 * β F.2.2.length + 1 = 11 + 2 * β F.2.2.length by omega]
             exact hd1 k hk
         have fr : ∀ a, a ≠ 7 → a ≠ 10 + 2 * β F.2.2.length → (xk_up (xk_up (xk_up (xk_up m1 (10 + 2 * β F.2.2.length) 0 (nI f)) (10 + 2 * β F.2.2.length) 1 (nI b)) (10 + 2 * β F.2.2.length) 2 (nI 0)) 7 3 (nI (F.2.2.length + 1))) a = m1 a := fun a a7 a0 => by
            funext k
            rw [xk_up_a a7, xk_up_a a0, xk_up_a a0, xk_up_a a0]
         exact h1 _ _ e ⟨xr_H_kept hR1 (fr _ (by omega) (by omega)) (fr _ (by omega) (by omega)) (fr _ (by omega) (by omega)) (fr _ (by omega) (by omega)) (fr _ (by omega) (by omega)), xr_L_kept hF.2.1 ((fr _ (by omega) (by omega)).trans (hm1 8 (by omega) (by omega) (by omega))), xr_C_push hβ hinj hB hlen hx (xk_up_s) (fun a _ _ a0 a1 => (fr a (by omega) a0).trans (hm1 a (by omega) (by omega) a1))⟩ (fun a ha => (fr a (by omega) (by omega)).trans (hm1 a (by omega) (by omega) (by omega))))
end
section
theorem xs_nm1 {i : Nat} (h : i < 2 ^ 31) : ¬ nI i = -1 := fun e => by
  have h1 := nI_pos h
  rw [e] at h1
  exact h1 (by decide)
/-- the places of the cache while they move by one, from p down to i -/
def xk_sh (r : xk_P) (p i : Nat) : xk_P := fun a j => if a = 9 ∧ i < j ∧ j ≤ p then r 9 (j - 1) else r a j
theorem xk_sh_0 {r : xk_P} {p : Nat} : xk_sh r p p = r := by
  funext a j
  unfold xk_sh
  rw [if_neg (by omega)]
theorem xk_sh_lo {r : xk_P} {p i j : Nat} (h : j ≤ i) : xk_sh r p i 9 j = r 9 j := by
  unfold xk_sh
  rw [if_neg (by omega)]
theorem xk_sh_a {r : xk_P} {p i a : Nat} (h : a ≠ 9) : xk_sh r p i a = r a := by
  funext j
  unfold xk_sh
  rw [if_neg (fun q => h q.1)]
theorem xk_sh_s {r : xk_P} {p i : Nat} {v : Option Nat} (h : i < p) (hv : r 9 i = v) : xk_up (xk_sh r p (i + 1)) 9 (i + 1) v = xk_sh r p i := by
  funext a j
  unfold xk_up xk_sh
  by_cases h1 : a = 9 ∧ j = i + 1
  · rw [if_pos h1, if_pos ⟨h1.1, by omega, by omega⟩, h1.2, Nat.add_sub_cancel, hv]
  · rw [if_neg h1]
    by_cases h2 : a = 9 ∧ i + 1 < j ∧ j ≤ p
    · rw [if_pos h2, if_pos ⟨h2.1, by omega, h2.2.2⟩]
    · rw [if_neg h2, if_neg (fun q => h2 ⟨q.1, by
        have : ¬ j = i + 1 := fun e => h1 ⟨q.1, e⟩
        omega, q.2.2⟩)]
theorem xr_S_sh {r : xk_P} {n p i : Nat} (h : xr_S r n) (hp : p < 5) : xr_S (xk_sh r p i) n := by
  intro a k v hv ha
  unfold xk_sh
  by_cases h1 : a = 9 ∧ i < k ∧ k ≤ p
  · obtain ⟨rfl, h2, h3⟩ := h1
    rw [xr_0_9 k (by omega)] at hv
    cases hv
  · rw [if_neg h1]
    exact h a k v hv ha
theorem xr_C_rot {l : List xs_B} {m : xk_M} {r : xk_P} {β : Nat → Nat} {p : Nat} (hz : m 7 3 = nI l.length) (hl5 : l.length ≤ 5) (hβ : ∀ i, i < 5 → β i < 5 ∧ r 9 i = some (10 + 2 * β i)) (hinj : ∀ i j, i < 5 → j < 5 → β i = β j → i = j) (hB : ∀ (i : Nat) (x : xs_B), l[i]? = some x → xr_B x (10 + 2 * β i) m) (hp : p < l.length) : xr_C ((l[p]?).toList ++ l.eraseIdx p) m (xk_up (xk_sh r p 0) 9 0 (some (10 + 2 * β p))) := by
  obtain ⟨x, hx⟩ := xs_get_lt hp
  rw [hx]
  show xr_C (x :: l.eraseIdx p) m _
  have hlen : (x :: l.eraseIdx p).length = l.length := by
    rw [List.length_cons, List.length_eraseIdx_of_lt hp]
    omega
  refine ⟨by rw [hlen]; exact hz, by rw [hlen]; exact hl5, fun j => if j = 0 then β p else if j ≤ p then β (j - 1) else β j, fun i hi => ?_, fun i j hi hj e => ?_, fun i y hy => ?_⟩
  · show (if i = 0 then β p else if i ≤ p then β (i - 1) else β i) < 5 ∧ xk_up (xk_sh r p 0) 9 0 (some (10 + 2 * β p)) 9 i = some (10 + 2 * (if i = 0 then β p else if i ≤ p then β (i - 1) else β i))
    by_cases h0 : i = 0
    · subst h0
      rw [if_pos rfl, xk_up_s]
      exact ⟨(hβ p (by omega)).1, rfl⟩
    · rw [if_neg h0, xk_up_k h0]
      unfold xk_sh
      by_cases h1 : i ≤ p
      · rw [if_pos h1, if_pos ⟨rfl, by omega, h1⟩]
        exact hβ (i - 1) (by omega)
      · rw [if_neg h1, if_neg (by omega)]
        exact hβ i hi
  · change (if i = 0 then β p else if i ≤ p then β (i - 1) else β i) = (if j = 0 then β p else if j ≤ p then β (j - 1) else β j) at e
    have key : ∀ q, q < 5 → ∃ t, t < 5 ∧ (if q = 0 then β p else if q ≤ p then β (q - 1) else β q) = β t ∧ (t = if q = 0 then p else if q ≤ p then q - 1 else q) := by
      intro q hq
      by_cases q0 : q = 0
      · exact ⟨p, by omega, by rw [if_pos q0], by rw [if_pos q0]⟩
      · by_cases q1 : q ≤ p
        · exact ⟨q - 1, by omega, by rw [if_neg q0, if_pos q1], by rw [if_neg q0, if_pos q1]⟩
        · exact ⟨q, hq, by rw [if_neg q0, if_neg q1], by rw [if_neg q0, if_neg q1]⟩
    obtain ⟨t1, a1, a2, a3⟩ := key i hi
    obtain ⟨t2, b1, b2, b3⟩ := key j hj
    rw [a2, b2] at e
    have e2 := hinj t1 t2 a1 b1 e
    rw [a3, b3] at e2
    split at e2 <;> split at e2 <;> (try split at e2) <;> (try split at e2) <;> omega
  · show xr_B y (10 + 2 * (if i = 0 then β p else if i ≤ p then β (i - 1) else β i)) m
    cases i with
    | zero =>
      rw [List.getElem?_cons_zero] at hy
      cases hy
      rw [if_pos rfl]
      exact hB p x hx
    | succ i =>
      rw [List.getElem?_cons_succ, List.getElem?_eraseIdx] at hy
      rw [if_neg (by omega)]
      by_cases h1 : i < p
      · rw [if_pos h1] at hy
        rw [if_pos (by omega), Nat.add_sub_cancel]
        exact hB i y hy
      · rw [if_neg h1] at hy
        rw [if_neg (by omega)]
        exact hB (i + 1) y hy

theorem xs_get_fi {F : xs_F} {f b i : Nat} (h : F.2.2.findIdx? (xs_is f b) = some i) : xs_get F f b = ((F.1, F.2.1, (F.2.2[i]?).toList ++ F.2.2.eraseIdx i), true) := by
  unfold xs_get
  rw [h]
theorem xs_get_nrm {F F1 : xs_F} {f b : Nat} (h : F.2.2.findIdx? (xs_is f b) = none) (e : xs_rm F = (F1, false)) : xs_get F f b = (F1, false) := by
  unfold xs_get
  rw [h]
  show (if (xs_rm F).2 = true then _ else _) = _
  rw [e, if_neg (show ¬ (false = true) by decide)]
theorem xs_in_e {F F2 : xs_F} {f b : Nat} (e : xs_inE F f b = (F2, true)) : ∃ x, F2.2.2 = F.2.2 ++ [x] ∧ (xs_in F f b).1.1 = F2.1 ∧ (xs_in F f b).1.2.1 = F2.2.1 := by
  unfold xs_inE at e
  unfold xs_in
  split at e
  · split at e
    · next h1 h2 =>
      cases e
      rw [if_pos h1, if_pos h2]
      exact ⟨_, rfl, rfl, rfl⟩
    · cases e
  · next h1 =>
    cases e
    rw [if_neg h1]
    exact ⟨_, rfl, rfl, rfl⟩
theorem xs_in_l {F F2 : xs_F} {f b : Nat} (e : xs_inE F f b = (F2, true)) : ∃ x, F2.2.2 = F.2.2 ++ [x] ∧ xs_in F f b = ((F2.1, F2.2.1, x :: F.2.2), true) := by
  unfold xs_inE at e
  unfold xs_in
  split at e
  · split at e
    · next h1 h2 =>
      cases e
      rw [if_pos h1, if_pos h2]
      exact ⟨_, rfl, rfl⟩
    · cases e
  · next h1 =>
    cases e
    rw [if_neg h1]
    exact ⟨_, rfl, rfl⟩
theorem xs_in_f {F F2 : xs_F} {f b : Nat} (e : xs_inE F f b = (F2, false)) : xs_in F f b = (F2, false) := by
  unfold xs_inE at e
  unfold xs_in
  split at e
  · split at e
    · cases e
    · next h1 h2 =>
      rw [if_pos h1, if_neg h2]
      exact e
  · cases e
theorem xs_get_nin {F F1 F2 : xs_F} {f b : Nat} (h : F.2.2.findIdx? (xs_is f b) = none) (e : xs_rm F = (F1, true)) (e2 : xs_inE F1 f b = (F2, false)) : xs_get F f b = (F2, false) := by
  unfold xs_get
  rw [h]
  show (if (xs_rm F).2 = true then _ else _) = _
  rw [e, if_pos rfl]
  exact xs_in_f e2
theorem xs_get_in {F F1 F2 : xs_F} {f b : Nat} (h : F.2.2.findIdx? (xs_is f b) = none) (e : xs_rm F = (F1, true)) (e2 : xs_inE F1 f b = (F2, true)) : xs_get F f b = ((xs_in F1 f b).1, true) := by
  obtain ⟨x, -, hx⟩ := xs_in_l e2
  unfold xs_get
  rw [h]
  show (if (xs_rm F).2 = true then _ else _) = _
  rw [e, if_pos rfl]
  show xs_in F1 f b = _
  rw [hx]
theorem xs_rot_e {l : List xs_B} {x : xs_B} : ((l ++ [x])[l.length + 1 - 1]?).toList ++ (l ++ [x]).eraseIdx (l.length + 1 - 1) = x :: l := by
  rw [Nat.add_sub_cancel, List.getElem?_append_right (Nat.le_refl _), Nat.sub_self, List.eraseIdx_append_of_length_le (Nat.le_refl _), Nat.sub_self]
  show [x] ++ (l ++ []) = _
  rw [List.append_nil]
  rfl

set_option maxRecDepth 20000 in
set_option maxHeartbeats 4000000 in
theorem l_rot {E : xk_E} {n : Nat} {Q : xk_Q} {m : xk_M} {r : xk_P} {β : Nat → Nat} {p : Nat} {v1 v2 v3 v4 : Option xk_V} (hn : 74 ≤ n) (hS0 : xr_S r n) (hβ : ∀ i, i < 5 → β i < 5 ∧ r 9 i = some (10 + 2 * β i)) (hp : p < 5) (hK : xk_W E m_Cache_getBlock 75 [some (.inr (some 7)), v1, v2, v3, v4, some (.inl (nI 0))] [] n m (xk_sh r p 0) 0 0 Q) : ∀ (k : Nat) (i : Nat), i - 0 < k → i ≤ p → xk_W E m_Cache_getBlock 48 [some (.inr (some 7)), v1, v2, v3, v4, some (.inl (nI i))] [] n m (xk_sh r p i) 0 0 Q := by
  intro k
  induction k with
  | zero => intro i h; exact absurd h (Nat.not_lt_zero _)
  | succ k ih =>
    intro i hk hi
    have hS := xr_S_sh (i := i) hS0 hp
    refine xk_iload (pc := 48) d_Cache_getBlock_48 rfl ?_
    first | refine xk_if_leN (pc := 50) (tgt := 75) d_Cache_getBlock_50 rfl (by omega) (fun c_50 => ?_) (fun c_50 => ?_) | refine xk_if_le (pc := 50) (tgt := 75) d_Cache_getBlock_50 rfl (fun c_50 => ?_) (fun c_50 => ?_)
    · subst c_50
      exact hK
    · obtain ⟨a, rfl⟩ : ∃ a, i = a + 1 := ⟨i - 1, by omega⟩
      have hkb := xr_kd_blk _ (hβ a (by omega)).1
      have hb5 := (hβ a (by omega)).1
      refine xk_aload_n (pc := 53) d_Cache_getBlock_53 rfl ?_
      refine xk_getRo (pc := 54) d_Cache_getBlock_54 fl_Cache_17 (by first | rfl | assumption) rfl (by omega) (by omega) (hS _ _ _ rfl (by omega)) ?_
      refine xk_iload (pc := 57) d_Cache_getBlock_57 rfl ?_
      refine xk_aload_n (pc := 59) d_Cache_getBlock_59 rfl ?_
      refine xk_getRo (pc := 60) d_Cache_getBlock_60 fl_Cache_17 (by first | rfl | assumption) rfl (by omega) (by omega) (hS _ _ _ rfl (by omega)) ?_
      refine xk_iload (pc := 63) d_Cache_getBlock_63 rfl ?_
      refine xk_iconst (pc := 65) (v := nI 1) d_Cache_getBlock_65 (by decide) ?_
      first | refine xk_isubN (pc := 66) d_Cache_getBlock_66 (by omega) ?_ | refine xk_isub (pc := 66) d_Cache_getBlock_66 ?_
      refine xk_aaloado (pc := 67) d_Cache_getBlock_67 (by first | rfl | assumption) (by decide) (by decide) (by omega) (by omega) rfl (by omega) (by decide) ((xk_sh_lo (by omega)).trans (hβ a (by omega)).2) ?_
      refine xk_aastore (pc := 68) (ci := 0) d_Cache_getBlock_68 rfl (by decide) (by decide) (by omega) (by omega) rfl (by omega) (by decide) hkb rfl rfl (by omega) (by omega) ?_
      rw [xk_sh_s (by omega) (hβ a (by omega)).2]
      refine xk_iincM (pc := 69) d_Cache_getBlock_69 rfl ?_
      refine xk_goto (pc := 72) (tgt := 48) d_Cache_getBlock_72 rfl ?_
      exact ih a (by omega) (by omega)

set_option maxRecDepth 20000 in
set_option maxHeartbeats 4000000 in
theorem s_gb37 {E : xk_E} {n : Nat} {m : xk_M} {r : xk_P} {Q : xk_Q} (hn : 74 ≤ n) (hS : xr_S r n) {l : List xs_B} {β : Nat → Nat} {p : Nat} {v1 v2 : Option xk_V} (hz : m 7 3 = nI l.length) (hl5 : l.length ≤ 5) (hβ : ∀ i, i < 5 → β i < 5 ∧ r 9 i = some (10 + 2 * β i)) (hinj : ∀ i j, i < 5 → j < 5 → β i = β j → i = j) (hB : ∀ (i : Nat) (x : xs_B), l[i]? = some x → xr_B x (10 + 2 * β i) m) (hp : p < l.length)
    (hQ : ∀ r', xr_C ((l[p]?).toList ++ l.eraseIdx p) m r' → r' 9 0 = some (10 + 2 * β p) → (∀ a, a ≠ 9 → r' a = r a) → Q (some (.inr (some (10 + 2 * β p)))) n m r') : xk_W E m_Cache_getBlock 37 [some (.inr (some 7)), v1, v2, some (.inl (nI p)), none, none] [] n m r 0 0 Q := by
  refine xk_aload_n (pc := 37) d_Cache_getBlock_37 rfl ?_
  refine xk_getRo (pc := 38) d_Cache_getBlock_38 fl_Cache_17 (by first | rfl | assumption) rfl (by omega) (by omega) (hS _ _ _ rfl (by omega)) ?_
  refine xk_iload_n (pc := 41) d_Cache_getBlock_41 rfl ?_
  refine xk_aaloado (pc := 42) d_Cache_getBlock_42 (by first | rfl | assumption) (by decide) (by decide) (by omega) (by omega) rfl (by omega) (by decide) (hβ p (by omega)).2 ?_
  refine xk_astore (pc := 43) d_Cache_getBlock_43 (by decide) ?_
  refine xk_iload_n (pc := 45) d_Cache_getBlock_45 rfl ?_
  refine xk_istore (pc := 46) d_Cache_getBlock_46 (by decide) ?_
  have K := fun hK => l_rot (E := E) (n := n) (Q := Q) (m := m) (p := p) (v1 := v1) (v2 := v2) (v3 := some (.inl (nI p))) (v4 := some (.inr (some (10 + 2 * β p)))) hn hS hβ (by omega) hK (p + 1) p (by omega) (by omega)
  rw [xk_sh_0] at K
  have hS := xr_S_sh (p := p) (i := 0) hS (by omega)
  have hkb := xr_kd_blk _ (hβ p (by omega)).1
  have hb5 := (hβ p (by omega)).1
  refine K ?_
  refine xk_aload_n (pc := 75) d_Cache_getBlock_75 rfl ?_
  refine xk_getRo (pc := 76) d_Cache_getBlock_76 fl_Cache_17 (by first | rfl | assumption) rfl (by omega) (by omega) (hS _ _ _ rfl (by omega)) ?_
  refine xk_iconst (pc := 79) (v := nI 0) d_Cache_getBlock_79 (by decide) ?_
  refine xk_aload (pc := 80) d_Cache_getBlock_80 rfl ?_
  refine xk_aastore (pc := 82) (ci := 0) d_Cache_getBlock_82 rfl (by decide) (by decide) (by omega) (by omega) rfl (by omega) (by decide) hkb rfl rfl (by omega) (by omega) ?_
  refine xk_aload (pc := 83) d_Cache_getBlock_83 rfl ?_
  refine xk_aret (pc := 85) rfl d_Cache_getBlock_85 rfl (Nat.le_of_ble_eq_true rfl) (Nat.le_of_ble_eq_true rfl) ?_
  exact hQ _ (xr_C_rot hz hl5 hβ hinj hB hp) xk_up_s (fun a ha => by funext k; rw [xk_up_a ha, xk_sh_a ha])

set_option maxRecDepth 20000 in
set_option maxHeartbeats 4000000 in
theorem c_Cache_getBlock {E : xk_E} {n : Nat} {m : xk_M} {r : xk_P} {Q : xk_Q} (hn : 74 ≤ n) (hS : xr_S r n) {F : xs_F} (hF : xr_F F m r) (hok : xs_okF F) (hsm : xs_small F) {f b : Nat} (hf : f < 8) (hb : b < 4)
    (h1 : ∀ F' m' r' j, xs_get F f b = (F', true) → xr_F F' m' r' → j < 5 → r' 9 0 = some (10 + 2 * j) → (∀ a, 20 ≤ a → m' a = m a) → (∀ a, a ≠ 9 → r' a = r a) → Q (some (.inr (some (10 + 2 * j)))) n m' r')
    (h0 : ∀ F' m', xs_get F f b = (F', false) → xr_F F' m' r → (∀ a, 20 ≤ a → m' a = m a) → Q (some (.inr none)) n m' r)
    (hokr : ∀ F', xs_rm F = (F', true) → xs_okF F' ∧ xs_small F' ∧ F'.2.2.length < 5) : xk_W E m_Cache_getBlock 0 (xk_ent m_Cache_getBlock [.inr (some 7), .inl (nI f), .inl (nI b)]) [] n m r 0 0 Q := by
  show xk_W E m_Cache_getBlock 0 [some (.inr (some 7)), some (.inl (nI f)), some (.inl (nI b)), none, none, none] [] n m r 0 0 Q
  refine xk_aload_n (pc := 0) d_Cache_getBlock_0 rfl ?_
  refine xk_iload_n (pc := 1) d_Cache_getBlock_1 rfl ?_
  refine xk_iload_n (pc := 2) d_Cache_getBlock_2 rfl ?_
  refine xk_cV2 (pc := 3) d_Cache_getBlock_3 ml_Cache_37 cz_Cache_find ⟨rfl, rfl⟩ rfl (by first | rfl | assumption) (by omega) (by omega) (Nat.le_of_ble_eq_true rfl) ⟨(Nat.le_of_ble_eq_true rfl), (Nat.le_of_ble_eq_true rfl)⟩ ?_
  refine c_Cache_find hn hS hF hok hf hb (fun i ei hi => ?_) (fun e => ?_)
  · refine xk_istore_n (pc := 6) d_Cache_getBlock_6 (by decide) ?_
    refine xk_iload_n (pc := 7) d_Cache_getBlock_7 rfl ?_
    refine xk_iconst (pc := 8) (v := (-1)) d_Cache_getBlock_8 (by decide) ?_
    first | refine xk_icmp_neN (pc := 9) (tgt := 37) d_Cache_getBlock_9 rfl (by omega) (by omega) (fun c_9 => ?_) (fun c_9 => ?_) | refine xk_icmp_ne (pc := 9) (tgt := 37) d_Cache_getBlock_9 rfl (fun c_9 => ?_) (fun c_9 => ?_)
    · first
        | (obtain ⟨hz, hl5, β, hβ, hinj, hB⟩ := hF2.2.2
           refine s_gb37 (l := F2.2.2) hn hS hz hl5 hβ hinj hB (p := F1.2.2.length + 1 - 1) (by rw [hx, List.length_append]; show F1.2.2.length + 1 - 1 < F1.2.2.length + 1; omega) (fun r' hC h9 hr' => ?_)
           refine h1 (F2.1, F2.2.1, x :: F1.2.2) m2 r' _ ((xs_get_in e e1 e2).trans (by rw [hin])) ⟨hF2.1, hF2.2.1, ?_⟩ (hβ _ (by omega)).1 h9 (fun a ha => (hm2 a ha).trans (hm1 a ha)) hr'
           rw [hx, xs_rot_e] at hC
           exact hC)
        | (obtain ⟨hz, hl5, β, hβ, hinj, hB⟩ := hF.2.2
           refine s_gb37 (l := F.2.2) hn hS hz hl5 hβ hinj hB (p := i) hi (fun r' hC h9 hr' => ?_)
           exact h1 _ m r' _ (xs_get_fi ei) ⟨hF.1, hF.2.1, hC⟩ (hβ _ (by omega)).1 h9 (fun _ _ => rfl) hr')
    · exact absurd c_9 (xs_nm1 (by have := hok.2.2.2.2.1; omega))
  · refine xk_istore_n (pc := 6) d_Cache_getBlock_6 (by decide) ?_
    refine xk_iload_n (pc := 7) d_Cache_getBlock_7 rfl ?_
    refine xk_iconst (pc := 8) (v := (-1)) d_Cache_getBlock_8 (by decide) ?_
    refine xk_icmp_ne (pc := 9) (tgt := 37) d_Cache_getBlock_9 rfl (fun h => absurd (by decide) h) (fun _ => ?_)
    refine xk_aload_n (pc := 12) d_Cache_getBlock_12 rfl ?_
    refine xk_cV0 (pc := 13) d_Cache_getBlock_13 ml_Cache_41 cz_Cache_makeRoom ⟨rfl, rfl⟩ rfl (by first | rfl | assumption) (by omega) (by omega) (Nat.le_of_ble_eq_true rfl) ⟨(Nat.le_of_ble_eq_true rfl), (Nat.le_of_ble_eq_true rfl)⟩ ?_
    refine c_Cache_makeRoom hn hS hF hok hsm (fun F1 m1 e1 hF1 hm1 => ?_) (fun F1 m1 e1 hF1 hm1 => ?_)
    · obtain ⟨hok1, hsm1, hl1⟩ := hokr F1 e1
      refine xk_if_eq (pc := 16) (tgt := 28) d_Cache_getBlock_16 rfl (fun h => absurd h (by decide)) (fun _ => ?_)
      refine xk_aload_n (pc := 19) d_Cache_getBlock_19 rfl ?_
      refine xk_iload_n (pc := 20) d_Cache_getBlock_20 rfl ?_
      refine xk_iload_n (pc := 21) d_Cache_getBlock_21 rfl ?_
      refine xk_cV2 (pc := 22) d_Cache_getBlock_22 ml_Cache_45 cz_Cache_bringIn ⟨rfl, rfl⟩ rfl (by first | rfl | assumption) (by omega) (by omega) (Nat.le_of_ble_eq_true rfl) ⟨(Nat.le_of_ble_eq_true rfl), (Nat.le_of_ble_eq_true rfl)⟩ ?_
      refine c_Cache_bringIn hn hS hF1 hok1 hsm1 hf hb hl1 (fun F2 m2 e2 hF2 hm2 => ?_) (fun F2 m2 e2 hF2 hm2 => ?_)
      · obtain ⟨x, hx, hin⟩ := xs_in_l e2
        have hz2 := hF2.2.2.1
        rw [hx, List.length_append] at hz2
        change m2 7 3 = nI (F1.2.2.length + 1) at hz2
        refine xk_if_ne (pc := 25) (tgt := 30) d_Cache_getBlock_25 rfl (fun _ => ?_) (fun h => absurd h (by decide))
        refine xk_aload_n (pc := 30) d_Cache_getBlock_30 rfl ?_
        refine xk_getIo (pc := 31) d_Cache_getBlock_31 fl_Cache_21 (by first | rfl | assumption) rfl (by omega) (by omega) hz2 ?_
        refine xk_iconst (pc := 34) (v := nI 1) d_Cache_getBlock_34 (by decide) ?_
        first | refine xk_isubN (pc := 35) d_Cache_getBlock_35 (by omega) ?_ | refine xk_isub (pc := 35) d_Cache_getBlock_35 ?_
        refine xk_istore_n (pc := 36) d_Cache_getBlock_36 (by decide) ?_
        first
          | (obtain ⟨hz, hl5, β, hβ, hinj, hB⟩ := hF2.2.2
             refine s_gb37 (l := F2.2.2) hn hS hz hl5 hβ hinj hB (p := F1.2.2.length + 1 - 1) (by rw [hx, List.length_append]; show F1.2.2.length + 1 - 1 < F1.2.2.length + 1; omega) (fun r' hC h9 hr' => ?_)
             refine h1 (F2.1, F2.2.1, x :: F1.2.2) m2 r' _ ((xs_get_in e e1 e2).trans (by rw [hin])) ⟨hF2.1, hF2.2.1, ?_⟩ (hβ _ (by omega)).1 h9 (fun a ha => (hm2 a ha).trans (hm1 a ha)) hr'
             rw [hx, xs_rot_e] at hC
             exact hC)
          | (obtain ⟨hz, hl5, β, hβ, hinj, hB⟩ := hF.2.2
             refine s_gb37 (l := F.2.2) hn hS hz hl5 hβ hinj hB (p := i) hi (fun r' hC h9 hr' => ?_)
             exact h1 _ m r' _ (xs_get_fi ei) ⟨hF.1, hF.2.1, hC⟩ (hβ _ (by omega)).1 h9 (fun _ _ => rfl) hr')
      · refine xk_if_ne (pc := 25) (tgt := 30) d_Cache_getBlock_25 rfl (fun h => absurd (by decide) h) (fun _ => ?_)
        refine xk_null (pc := 28) d_Cache_getBlock_28 ?_
        refine xk_aret (pc := 29) rfl d_Cache_getBlock_29 rfl (Nat.le_of_ble_eq_true rfl) (Nat.le_of_ble_eq_true rfl) ?_
        first | exact h0 F2 m2 (xs_get_nin e e1 e2) hF2 (fun a ha => (hm2 a ha).trans (hm1 a ha)) | exact h0 F1 m1 (xs_get_nrm e e1) hF1 hm1
    · refine xk_if_eq (pc := 16) (tgt := 28) d_Cache_getBlock_16 rfl (fun _ => ?_) (fun h => absurd (by decide) h)
      refine xk_null (pc := 28) d_Cache_getBlock_28 ?_
      refine xk_aret (pc := 29) rfl d_Cache_getBlock_29 rfl (Nat.le_of_ble_eq_true rfl) (Nat.le_of_ble_eq_true rfl) ?_
      first | exact h0 F2 m2 (xs_get_nin e e1 e2) hF2 (fun a ha => (hm2 a ha).trans (hm1 a ha)) | exact h0 F1 m1 (xs_get_nrm e e1) hF1 hm1
end
section
theorem xr_st_9 (k : Nat) : xr_st 9 k = none := rfl
theorem xr_S_9 {r R : xk_P} {n : Nat} (h : xr_S r n) (hR : ∀ a, a ≠ 9 → R a = r a) : xr_S R n := by
  intro a k v hv ha
  by_cases h9 : a = 9
  · subst h9
    rw [xr_st_9] at hv
    cases hv
  · rw [hR a h9]
    exact h a k v hv ha
theorem xs_fl_s {l : List xs_B} {i f : Nat} {x : xs_B} (h : l[i]? = some x) : (l.take (i + 1)).filter (fun x => decide (x.1 ≠ f)) = (l.take i).filter (fun x => decide (x.1 ≠ f)) ++ (if x.1 = f then [] else [x]) := by
  rw [List.take_add_one, h, List.filter_append]
  congr 1
  show List.filter _ [x] = _
  by_cases e : x.1 = f
  · rw [if_pos e, List.filter_cons_of_neg (by simp [e]), List.filter_nil]
  · rw [if_neg e, List.filter_cons_of_pos (by simp [e]), List.filter_nil]
theorem xs_fl_le {l : List xs_B} {i f : Nat} : ((l.take i).filter (fun x => decide (x.1 ≠ f))).length ≤ i := Nat.le_trans (List.length_filter_le _ _) (by rw [List.length_take]; omega)

set_option maxRecDepth 20000 in
set_option maxHeartbeats 4000000 in
theorem l_drop {E : xk_E} {n : Nat} {Q : xk_Q} {m : xk_M} {l : List xs_B} {f : Nat} {r : xk_P} (hn : 74 ≤ n) (hS0 : xr_S r n) (hz : m 7 3 = nI l.length) (hl5 : l.length ≤ 5) (hok : ∀ (i : Nat) (x : xs_B), l[i]? = some x → x.1 < 8) (hf : f < 8) (hQ : ∀ (R : xk_P) (β : Nat → Nat), (∀ a, a ≠ 9 → R a = r a) → (∀ i, i < 5 → β i < 5 ∧ R 9 i = some (10 + 2 * β i)) → (∀ i j, i < 5 → j < 5 → β i = β j → i = j) → (∀ (j : Nat) (x : xs_B), (l.filter (fun x => decide (x.1 ≠ f)))[j]? = some x → xr_B x (10 + 2 * β j) m) → Q none n (xk_up m 7 3 (nI (l.filter (fun x => decide (x.1 ≠ f))).length)) R) : ∀ (k : Nat) (i : Nat) (R : xk_P) (β : Nat → Nat) (v4 : Option xk_V), l.length - i < k → i ≤ l.length → (∀ a, a ≠ 9 → R a = r a) → (∀ i, i < 5 → β i < 5 ∧ R 9 i = some (10 + 2 * β i)) → (∀ i j, i < 5 → j < 5 → β i = β j → i = j) → (∀ (j : Nat) (x : xs_B), ((l.take i).filter (fun x => decide (x.1 ≠ f)))[j]? = some x → xr_B x (10 + 2 * β j) m) → (∀ (j : Nat) (x : xs_B), i ≤ j → l[j]? = some x → xr_B x (10 + 2 * β j) m) → xk_W E m_Cache_dropFile 4 [some (.inr (some 7)), some (.inl (nI f)), some (.inl (nI ((l.take i).filter (fun x => decide (x.1 ≠ f))).length)), some (.inl (nI i)), v4] [] n m R 0 0 Q := by
  intro k
  induction k with
  | zero => intro i R β v4 h; exact absurd h (Nat.not_lt_zero _)
  | succ k ih =>
    intro i R β v4 hk hi hR hβ hinj hD hL
    have hS := xr_S_9 hS0 hR
    refine xk_iload_n (pc := 4) d_Cache_dropFile_4 rfl ?_
    refine xk_aload_n (pc := 5) d_Cache_dropFile_5 rfl ?_
    refine xk_getIo (pc := 6) d_Cache_dropFile_6 fl_Cache_21 (by first | rfl | assumption) rfl (by omega) (by omega) hz ?_
    first | refine xk_icmp_geN (pc := 9) (tgt := 58) d_Cache_dropFile_9 rfl (by omega) (by omega) (fun c_9 => ?_) (fun c_9 => ?_) | refine xk_icmp_ge (pc := 9) (tgt := 58) d_Cache_dropFile_9 rfl (fun c_9 => ?_) (fun c_9 => ?_)
    · have e : i = l.length := by omega
      subst e
      rw [List.take_length] at hD ⊢
      refine xk_aload_n (pc := 58) d_Cache_dropFile_58 rfl ?_
      refine xk_iload_n (pc := 59) d_Cache_dropFile_59 rfl ?_
      refine xk_putI (pc := 60) d_Cache_dropFile_60 fl_Cache_21 (by first | rfl | assumption) rfl (fun q hq h => by cases hq; first | exact absurd h (by decide) | exact ⟨rfl, rfl, rfl⟩) ⟨rfl, rfl⟩ (by omega) (by omega) ?_
      refine xk_vret (pc := 63) rfl d_Cache_dropFile_63 rfl (Nat.le_of_ble_eq_true rfl) (Nat.le_of_ble_eq_true rfl) ?_
      exact hQ R β hR hβ hinj hD
    · obtain ⟨x, hx⟩ := xs_get_lt (l := l) c_9
      have hbi := (hβ i (by omega)).1
      have hkb := xr_kd_blk _ hbi
      have hBi := hL i x (Nat.le_refl _) hx
      have hB0 := hBi.1
      have hx8 := hok i x hx
      have hfl := xs_fl_s (f := f) hx
      have hkl := xs_fl_le (l := l) (i := i) (f := f)
      have hbk := (hβ ((l.take i).filter (fun x => decide (x.1 ≠ f))).length (by omega)).1
      have hkk := xr_kd_blk _ hbk
      refine xk_aload_n (pc := 12) d_Cache_dropFile_12 rfl ?_
      refine xk_getRo (pc := 13) d_Cache_dropFile_13 fl_Cache_17 (by first | rfl | assumption) rfl (by omega) (by omega) (hS _ _ _ rfl (by omega)) ?_
      refine xk_iload_n (pc := 16) d_Cache_dropFile_16 rfl ?_
      refine xk_aaloado (pc := 17) d_Cache_dropFile_17 (by first | rfl | assumption) (by decide) (by decide) (by omega) (by omega) rfl (by omega) (by decide) (hβ i (by omega)).2 ?_
      refine xk_astore (pc := 18) d_Cache_dropFile_18 (by decide) ?_
      refine xk_aload (pc := 20) d_Cache_dropFile_20 rfl ?_
      refine xk_getIo (pc := 22) d_Cache_dropFile_22 fl_Cache_30 (by first | rfl | assumption) rfl (by omega) (by omega) hB0 ?_
      refine xk_iload_n (pc := 25) d_Cache_dropFile_25 rfl ?_
      first | refine xk_icmp_eqN (pc := 26) (tgt := 52) d_Cache_dropFile_26 rfl (by omega) (by omega) (fun c_26 => ?_) (fun c_26 => ?_) | refine xk_icmp_eq (pc := 26) (tgt := 52) d_Cache_dropFile_26 rfl (fun c_26 => ?_) (fun c_26 => ?_)
      · rw [if_pos c_26, List.append_nil] at hfl
        refine xk_iincN (pc := 52) (d := 1) d_Cache_dropFile_52 rfl ?_
        refine xk_goto (pc := 55) (tgt := 4) d_Cache_dropFile_55 rfl ?_
        first
          | (have K := ih (i + 1) R β (some (.inr (some (10 + 2 * β i)))) (by omega) (by omega) hR hβ hinj (by rw [hfl]; exact hD) (fun j y hj hy => hL j y (by omega) hy)
             rw [hfl] at K
             exact K)
          | (have K := ih (i + 1) (xk_up (xk_up R 9 i (some (10 + 2 * β ((l.take i).filter (fun x => decide (x.1 ≠ f))).length))) 9 ((l.take i).filter (fun x => decide (x.1 ≠ f))).length (some (10 + 2 * β i))) (fun j => if j = ((l.take i).filter (fun x => decide (x.1 ≠ f))).length then β i else if j = i then β ((l.take i).filter (fun x => decide (x.1 ≠ f))).length else β j) (some (.inr (some (10 + 2 * β i)))) (by omega) (by omega) (fun a ha => by funext k; rw [xk_up_a ha, xk_up_a ha, hR a ha]) (fun j hj => by
               show (if j = ((l.take i).filter (fun x => decide (x.1 ≠ f))).length then β i else if j = i then β ((l.take i).filter (fun x => decide (x.1 ≠ f))).length else β j) < 5 ∧ xk_up (xk_up R 9 i _) 9 _ _ 9 j = some (10 + 2 * (if j = ((l.take i).filter (fun x => decide (x.1 ≠ f))).length then β i else if j = i then β ((l.take i).filter (fun x => decide (x.1 ≠ f))).length else β j))
               by_cases j1 : j = ((l.take i).filter (fun x => decide (x.1 ≠ f))).length
               · rw [if_pos j1, j1, xk_up_s]; exact ⟨hbi, rfl⟩
               · rw [if_neg j1, xk_up_k j1]
                 by_cases j2 : j = i
                 · rw [if_pos j2, j2, xk_up_s]; exact ⟨hbk, rfl⟩
                 · rw [if_neg j2, xk_up_k j2]; exact hβ j hj) (fun a b ha hb hab => by
               change (if a = ((l.take i).filter (fun x => decide (x.1 ≠ f))).length then β i else if a = i then β ((l.take i).filter (fun x => decide (x.1 ≠ f))).length else β a) = (if b = ((l.take i).filter (fun x => decide (x.1 ≠ f))).length then β i else if b = i then β ((l.take i).filter (fun x => decide (x.1 ≠ f))).length else β b) at hab
               generalize ((l.take i).filter (fun x => decide (x.1 ≠ f))).length = kk at hab hkl
               have h5 : kk < 5 := by omega
               have h6 : i < 5 := by omega
               split at hab <;> split at hab <;> (try split at hab) <;> (try split at hab) <;> first | omega | (have := hinj _ _ (by omega) (by omega) hab; omega)) (by
               rw [hfl]
               intro j y hy
               show xr_B y (10 + 2 * (if j = ((l.take i).filter (fun x => decide (x.1 ≠ f))).length then β i else if j = i then β ((l.take i).filter (fun x => decide (x.1 ≠ f))).length else β j)) m
               by_cases j1 : j < ((l.take i).filter (fun x => decide (x.1 ≠ f))).length
               · rw [List.getElem?_append_left j1] at hy
                 rw [if_neg (by omega), if_neg (by omega)]
                 exact hD j y hy
               · rw [List.getElem?_append_right (by omega)] at hy
                 have j2 := xs_lt hy
                 have j3 : j = ((l.take i).filter (fun x => decide (x.1 ≠ f))).length := by
                   change j - ((l.take i).filter (fun x => decide (x.1 ≠ f))).length < 1 at j2
                   omega
                 rw [j3, Nat.sub_self] at hy
                 cases hy
                 rw [if_pos j3]
                 exact hBi) (fun j y hj hy => by
               show xr_B y (10 + 2 * (if j = ((l.take i).filter (fun x => decide (x.1 ≠ f))).length then β i else if j = i then β ((l.take i).filter (fun x => decide (x.1 ≠ f))).length else β j)) m
               rw [if_neg (by omega), if_neg (by omega)]
               exact hL j y (by omega) hy)
             rw [hfl, List.length_append] at K
             exact K)
      · rw [if_neg c_26] at hfl
        refine xk_aload_n (pc := 29) d_Cache_dropFile_29 rfl ?_
        refine xk_getRo (pc := 30) d_Cache_dropFile_30 fl_Cache_17 (by first | rfl | assumption) rfl (by omega) (by omega) (hS _ _ _ rfl (by omega)) ?_
        refine xk_iload_n (pc := 33) d_Cache_dropFile_33 rfl ?_
        refine xk_aload_n (pc := 34) d_Cache_dropFile_34 rfl ?_
        refine xk_getRo (pc := 35) d_Cache_dropFile_35 fl_Cache_17 (by first | rfl | assumption) rfl (by omega) (by omega) (hS _ _ _ rfl (by omega)) ?_
        refine xk_iload_n (pc := 38) d_Cache_dropFile_38 rfl ?_
        refine xk_aaloado (pc := 39) d_Cache_dropFile_39 (by first | rfl | assumption) (by decide) (by decide) (by omega) (by omega) rfl (by omega) (by decide) (hβ _ (by omega)).2 ?_
        refine xk_aastore (pc := 40) (ci := 0) d_Cache_dropFile_40 rfl (by decide) (by decide) (by omega) (by omega) rfl (by omega) (by decide) hkk rfl rfl (by omega) (by omega) ?_
        have hS2 : xr_S (xk_up R 9 i (some (10 + 2 * β ((l.take i).filter (fun x => decide (x.1 ≠ f))).length))) n := xr_S.up hS (xr_st_9 _)
        refine xk_aload_n (pc := 41) d_Cache_dropFile_41 rfl ?_
        refine xk_getRo (pc := 42) d_Cache_dropFile_42 fl_Cache_17 (by first | rfl | assumption) rfl (by omega) (by omega) (hS2 _ _ _ rfl (by omega)) ?_
        refine xk_iload_n (pc := 45) d_Cache_dropFile_45 rfl ?_
        refine xk_aload (pc := 46) d_Cache_dropFile_46 rfl ?_
        refine xk_aastore (pc := 48) (ci := 0) d_Cache_dropFile_48 rfl (by decide) (by decide) (by omega) (by omega) rfl (by omega) (by decide) hkb rfl rfl (by omega) (by omega) ?_
        refine xk_iincN (pc := 49) (d := 1) d_Cache_dropFile_49 rfl ?_
        refine xk_iincN (pc := 52) (d := 1) d_Cache_dropFile_52 rfl ?_
        refine xk_goto (pc := 55) (tgt := 4) d_Cache_dropFile_55 rfl ?_
        first
          | (have K := ih (i + 1) R β (some (.inr (some (10 + 2 * β i)))) (by omega) (by omega) hR hβ hinj (by rw [hfl]; exact hD) (fun j y hj hy => hL j y (by omega) hy)
             rw [hfl] at K
             exact K)
          | (have K := ih (i + 1) (xk_up (xk_up R 9 i (some (10 + 2 * β ((l.take i).filter (fun x => decide (x.1 ≠ f))).length))) 9 ((l.take i).filter (fun x => decide (x.1 ≠ f))).length (some (10 + 2 * β i))) (fun j => if j = ((l.take i).filter (fun x => decide (x.1 ≠ f))).length then β i else if j = i then β ((l.take i).filter (fun x => decide (x.1 ≠ f))).length else β j) (some (.inr (some (10 + 2 * β i)))) (by omega) (by omega) (fun a ha => by funext k; rw [xk_up_a ha, xk_up_a ha, hR a ha]) (fun j hj => by
               show (if j = ((l.take i).filter (fun x => decide (x.1 ≠ f))).length then β i else if j = i then β ((l.take i).filter (fun x => decide (x.1 ≠ f))).length else β j) < 5 ∧ xk_up (xk_up R 9 i _) 9 _ _ 9 j = some (10 + 2 * (if j = ((l.take i).filter (fun x => decide (x.1 ≠ f))).length then β i else if j = i then β ((l.take i).filter (fun x => decide (x.1 ≠ f))).length else β j))
               by_cases j1 : j = ((l.take i).filter (fun x => decide (x.1 ≠ f))).length
               · rw [if_pos j1, j1, xk_up_s]; exact ⟨hbi, rfl⟩
               · rw [if_neg j1, xk_up_k j1]
                 by_cases j2 : j = i
                 · rw [if_pos j2, j2, xk_up_s]; exact ⟨hbk, rfl⟩
                 · rw [if_neg j2, xk_up_k j2]; exact hβ j hj) (fun a b ha hb hab => by
               change (if a = ((l.take i).filter (fun x => decide (x.1 ≠ f))).length then β i else if a = i then β ((l.take i).filter (fun x => decide (x.1 ≠ f))).length else β a) = (if b = ((l.take i).filter (fun x => decide (x.1 ≠ f))).length then β i else if b = i then β ((l.take i).filter (fun x => decide (x.1 ≠ f))).length else β b) at hab
               generalize ((l.take i).filter (fun x => decide (x.1 ≠ f))).length = kk at hab hkl
               have h5 : kk < 5 := by omega
               have h6 : i < 5 := by omega
               split at hab <;> split at hab <;> (try split at hab) <;> (try split at hab) <;> first | omega | (have := hinj _ _ (by omega) (by omega) hab; omega)) (by
               rw [hfl]
               intro j y hy
               show xr_B y (10 + 2 * (if j = ((l.take i).filter (fun x => decide (x.1 ≠ f))).length then β i else if j = i then β ((l.take i).filter (fun x => decide (x.1 ≠ f))).length else β j)) m
               by_cases j1 : j < ((l.take i).filter (fun x => decide (x.1 ≠ f))).length
               · rw [List.getElem?_append_left j1] at hy
                 rw [if_neg (by omega), if_neg (by omega)]
                 exact hD j y hy
               · rw [List.getElem?_append_right (by omega)] at hy
                 have j2 := xs_lt hy
                 have j3 : j = ((l.take i).filter (fun x => decide (x.1 ≠ f))).length := by
                   change j - ((l.take i).filter (fun x => decide (x.1 ≠ f))).length < 1 at j2
                   omega
                 rw [j3, Nat.sub_self] at hy
                 cases hy
                 rw [if_pos j3]
                 exact hBi) (fun j y hj hy => by
               show xr_B y (10 + 2 * (if j = ((l.take i).filter (fun x => decide (x.1 ≠ f))).length then β i else if j = i then β ((l.take i).filter (fun x => decide (x.1 ≠ f))).length else β j)) m
               rw [if_neg (by omega), if_neg (by omega)]
               exact hL j y (by omega) hy)
             rw [hfl, List.length_append] at K
             exact K)

set_option maxRecDepth 20000 in
set_option maxHeartbeats 4000000 in
theorem c_Cache_dropFile {E : xk_E} {n : Nat} {m : xk_M} {r : xk_P} {Q : xk_Q} (hn : 74 ≤ n) (hS : xr_S r n) {F : xs_F} (hF : xr_F F m r) (hok : xs_okF F) {f : Nat} (hf : f < 8) (hQ : ∀ m' r', xr_F (xs_drop F f) m' r' → (∀ a, 20 ≤ a → m' a = m a) → (∀ a, a ≠ 9 → r' a = r a) → Q none n m' r') : xk_W E m_Cache_dropFile 0 (xk_ent m_Cache_dropFile [.inr (some 7), .inl (nI f)]) [] n m r 0 0 Q := by
  show xk_W E m_Cache_dropFile 0 [some (.inr (some 7)), some (.inl (nI f)), none, none, none] [] n m r 0 0 Q
  refine xk_iconst (pc := 0) (v := nI 0) d_Cache_dropFile_0 (by decide) ?_
  refine xk_istore_n (pc := 1) d_Cache_dropFile_1 (by decide) ?_
  refine xk_iconst (pc := 2) (v := nI 0) d_Cache_dropFile_2 (by decide) ?_
  refine xk_istore_n (pc := 3) d_Cache_dropFile_3 (by decide) ?_
  obtain ⟨hz, hl5, β, hβ, hinj, hB⟩ := hF.2.2
  refine l_drop (l := F.2.2) hn hS hz hl5 (fun i x hx => (hok.2.2.1 i x hx).1) hf (fun R γ hR hγ hinj2 hD => ?_) (F.2.2.length + 1) 0 r β none (by omega) (by omega) (fun _ _ => rfl) hβ hinj (fun j x hx => by simp at hx) (fun j x _ hx => hB j x hx)
  have fr : ∀ a, a ≠ 7 → (xk_up m 7 3 (nI (F.2.2.filter (fun x => decide (x.1 ≠ f))).length)) a = m a := fun a ha => by funext k; exact xk_up_a ha
  refine hQ _ R ⟨xr_H_kept hF.1 (fr _ (by decide)) (fr _ (by decide)) (fr _ (by decide)) (fr _ (by decide)) (fr _ (by decide)), xr_L_kept hF.2.1 (fr _ (by decide)), xk_up_s, Nat.le_trans (List.length_filter_le _ _) hl5, γ, hγ, hinj2, fun j x hx => ?_⟩ (fun a ha => fr a (by omega)) hR
  have hj5 : j < 5 := by
    have h1 : j < (F.2.2.filter (fun x => decide (x.1 ≠ f))).length := xs_lt hx
    have h2 := List.length_filter_le (fun x : xs_B => decide (x.1 ≠ f)) F.2.2
    omega
  have := (hγ j hj5).1
  exact xr_B_kept (hD j x hx) (fr _ (by omega)) (fr _ (by omega))

set_option maxRecDepth 20000 in
set_option maxHeartbeats 4000000 in
theorem l_anew {E : xk_E} {n : Nat} {Q : xk_Q} {m : xk_M} {r : xk_P} (hn : 74 ≤ n) (hS : xr_S r n) (hQ : Q none n (xk_fn m 8 0 8 (m 4)) r) : ∀ (k : Nat) (i : Nat) (M : xk_M), 8 - i < k → i ≤ 8 → M = xk_fn m 8 0 i (m 4) → xk_W E m_Cache_startAnew 7 [some (.inr (some 7)), some (.inl (nI i))] [] n M r 0 0 Q := by
  intro k
  induction k with
  | zero => intro i M h; exact absurd h (Nat.not_lt_zero _)
  | succ k ih =>
    intro i M hk hi hM
    subst hM
    refine xk_iload_n (pc := 7) d_Cache_startAnew_7 rfl ?_
    refine xk_bipush (pc := 8) (v := nI 8) d_Cache_startAnew_8 (by decide) ?_
    first | refine xk_icmp_geN (pc := 10) (tgt := 33) d_Cache_startAnew_10 rfl (by omega) (by omega) (fun c_10 => ?_) (fun c_10 => ?_) | refine xk_icmp_ge (pc := 10) (tgt := 33) d_Cache_startAnew_10 rfl (fun c_10 => ?_) (fun c_10 => ?_)
    · have e : i = 8 := by omega
      subst e
      exact xk_vret (pc := 33) rfl d_Cache_startAnew_33 rfl (Nat.le_of_ble_eq_true rfl) (Nat.le_of_ble_eq_true rfl) hQ
    · refine xk_aload_n (pc := 13) d_Cache_startAnew_13 rfl ?_
      refine xk_getRo (pc := 14) d_Cache_startAnew_14 fl_Cache_9 (by first | rfl | assumption) rfl (by omega) (by omega) (hS _ _ _ rfl (by omega)) ?_
      refine xk_iload_n (pc := 17) d_Cache_startAnew_17 rfl ?_
      refine xk_aload_n (pc := 18) d_Cache_startAnew_18 rfl ?_
      refine xk_getRo (pc := 19) d_Cache_startAnew_19 fl_Cache_25 (by first | rfl | assumption) rfl (by omega) (by omega) (hS _ _ _ rfl (by omega)) ?_
      refine xk_iload_n (pc := 22) d_Cache_startAnew_22 rfl ?_
      refine xk_cV1 (pc := 23) d_Cache_startAnew_23 ml_Cache_53 cz_Host_lengthOf ⟨rfl, rfl⟩ rfl (by first | rfl | assumption) (by omega) (by omega) (Nat.le_of_ble_eq_true rfl) ⟨(Nat.le_of_ble_eq_true rfl), (Nat.le_of_ble_eq_true rfl)⟩ ?_
      refine c_Host_lengthOf hn hS (by omega) ?_
      rw [xk_fn_a (by decide)]
      refine xk_iastore (pc := 26) d_Cache_startAnew_26 (by first | rfl | assumption) (by omega) (by omega) rfl (by omega) (by decide) ?_
      rw [xk_fn_s (g := m 4) (by omega)]
      refine xk_iincN (pc := 27) (d := 1) d_Cache_startAnew_27 rfl ?_
      refine xk_goto (pc := 30) (tgt := 7) d_Cache_startAnew_30 rfl ?_
      exact ih (i + 1) _ (by omega) (by omega) rfl

set_option maxRecDepth 20000 in
set_option maxHeartbeats 4000000 in
theorem c_Cache_startAnew {E : xk_E} {n : Nat} {m : xk_M} {r : xk_P} {Q : xk_Q} (hn : 74 ≤ n) (hS : xr_S r n) {F : xs_F} (hF : xr_F F m r) (hok : xs_okF F) (hQ : ∀ m', xr_F (F.1, F.1.2.1, []) m' r → (∀ a, 20 ≤ a → m' a = m a) → Q none n m' r) : xk_W E m_Cache_startAnew 0 (xk_ent m_Cache_startAnew [.inr (some 7)]) [] n m r 0 0 Q := by
  show xk_W E m_Cache_startAnew 0 [some (.inr (some 7)), none] [] n m r 0 0 Q
  refine xk_aload_n (pc := 0) d_Cache_startAnew_0 rfl ?_
  refine xk_iconst (pc := 1) (v := nI 0) d_Cache_startAnew_1 (by decide) ?_
  refine xk_putI (pc := 2) d_Cache_startAnew_2 fl_Cache_21 (by first | rfl | assumption) rfl (fun q hq h => by cases hq; first | exact absurd h (by decide) | exact ⟨rfl, rfl, rfl⟩) ⟨rfl, rfl⟩ (by omega) (by omega) ?_
  refine xk_iconst (pc := 5) (v := nI 0) d_Cache_startAnew_5 (by decide) ?_
  refine xk_istore_n (pc := 6) d_Cache_startAnew_6 (by decide) ?_
  obtain ⟨hz, hl5, β, hβ, hinj, hB⟩ := hF.2.2
  have fr : ∀ a, a ≠ 7 → a ≠ 8 → (xk_fn (xk_up m 7 3 (nI 0)) 8 0 8 ((xk_up m 7 3 (nI 0)) 4)) a = m a := fun a ha hb => by funext k; rw [xk_fn_a hb, xk_up_a ha]
  refine l_anew (m := xk_up m 7 3 (nI 0)) hn hS (hQ _ ⟨xr_H_kept hF.1 (fr _ (by decide) (by decide)) (fr _ (by decide) (by decide)) (fr _ (by decide) (by decide)) (fr _ (by decide) (by decide)) (fr _ (by decide) (by decide)), ?_, ?_, Nat.zero_le 5, β, hβ, hinj, fun i x hx => by simp at hx⟩ (fun a ha => fr a (by omega) (by omega))) 9 0 _ (by omega) (by omega) xk_fn_0.symm
  · intro f hf
    unfold xk_fn
    rw [if_pos ⟨rfl, by omega, by omega⟩, xk_up_a (by decide)]
    exact hF.1.2.1 f hf
  · rw [xk_fn_a (by decide), xk_up_s]; rfl
end
section
/-! what holds of the file side goes on to hold -/
def xs_ky (x : xs_B) : Nat × Nat := (x.1, x.2.1)
theorem xo_nd {l : List xs_B} : (∀ (i j : Nat) (x y : xs_B), l[i]? = some x → l[j]? = some y → x.1 = y.1 → x.2.1 = y.2.1 → i = j) ↔ (l.map xs_ky).Nodup := by
  constructor
  · intro h
    rw [List.Nodup, List.pairwise_iff_getElem]
    intro i j hi hj hij e
    rw [List.length_map] at hi hj
    rw [List.getElem_map, List.getElem_map] at e
    have := h i j _ _ (List.getElem?_eq_getElem hi) (List.getElem?_eq_getElem hj) (congrArg (fun z : Nat × Nat => z.1) e) (congrArg (fun z : Nat × Nat => z.2) e)
    omega
  · intro h i j x y hx hy e1 e2
    rw [List.Nodup, List.pairwise_iff_getElem] at h
    have hi := xs_lt hx
    have hj := xs_lt hy
    have gx : l[i] = x := Option.some.inj ((List.getElem?_eq_getElem hi).symm.trans hx)
    have gy : l[j] = y := Option.some.inj ((List.getElem?_eq_getElem hj).symm.trans hy)
    have ek : xs_ky x = xs_ky y := Prod.ext e1 e2
    rcases Nat.lt_trichotomy i j with q | q | q
    · exact absurd (by rw [List.getElem_map, List.getElem_map, gx, gy]; exact ek) (h i j (by rw [List.length_map]; exact hi) (by rw [List.length_map]; exact hj) q)
    · exact q
    · exact absurd (by rw [List.getElem_map, List.getElem_map, gx, gy]; exact ek.symm) (h j i (by rw [List.length_map]; exact hj) (by rw [List.length_map]; exact hi) q)
/-- of the host and LENGTH -/
def xo_h (h : xs_H) (ln : Nat → Nat) : Prop := (∀ f, f < 8 → h.2.1 f ≤ ln f ∧ ln f ≤ 32) ∧ (∀ f i, f < 8 → h.2.1 f ≤ i → i < 32 → h.2.2.1 f i = 0) ∧ h.2.2.2.2.2 ≤ 9
/-- of the cache -/
def xo_l (ln : Nat → Nat) (l : List xs_B) : Prop := (∀ x ∈ l, x.1 < 8 ∧ x.2.1 < 4 ∧ (x.2.2.1 = true → 8 * x.2.1 < ln x.1)) ∧ (l.map xs_ky).Nodup ∧ l.length ≤ 5
theorem xo_iff {F : xs_F} : xs_okF F ↔ xo_h F.1 F.2.1 ∧ xo_l F.2.1 F.2.2 := by
  constructor
  · rintro ⟨h1, h2, h3, h4, h5, h6⟩
    refine ⟨⟨h1, h2, h6⟩, fun x hx => ?_, xo_nd.mp h4, h5⟩
    obtain ⟨i, hi⟩ := List.getElem?_of_mem hx
    exact h3 i x hi
  · rintro ⟨⟨h1, h2, h6⟩, h3, h4, h5⟩
    exact ⟨h1, h2, fun i x hx => h3 x (List.mem_of_getElem? hx), xo_nd.mpr h4, h5, h6⟩
theorem xo_op {h : xs_H} {ln : Nat → Nat} (hh : xo_h h ln) (o f b : Nat) : xo_h (xs_op h o f b).1 ln := ⟨hh.1, hh.2.1, by show h.2.2.2.2.2 - 1 ≤ 9; have := hh.2.2; omega⟩
theorem xo_wrh {h : xs_H} {ln : Nat → Nat} {x : xs_B} (hh : xo_h h ln) (hx : x.1 < 8) : xo_h (xs_wrh h (ln x.1) x) ln := by
  obtain ⟨h1, h2, h3⟩ := hh
  refine ⟨fun f hf => ?_, fun f i hf hi hi2 => ?_, h3⟩
  · show xs_u h.2.1 x.1 (max (h.2.1 x.1) (min (8 * x.2.1 + 8) (ln x.1))) f ≤ ln f ∧ ln f ≤ 32
    by_cases e : f = x.1
    · subst e
      rw [xs_u_s]
      have := h1 _ hf
      omega
    · rw [xs_u_n e]
      exact h1 f hf
  · change xs_u h.2.1 x.1 (max (h.2.1 x.1) (min (8 * x.2.1 + 8) (ln x.1))) f ≤ i at hi
    show xs_u h.2.2.1 x.1 (fun i => if 8 * x.2.1 ≤ i ∧ i < min (8 * x.2.1 + 8) (ln x.1) then x.2.2.2 (i - 8 * x.2.1) else h.2.2.1 x.1 i) f i = 0
    by_cases e : f = x.1
    · subst e
      rw [xs_u_s] at hi ⊢
      rw [if_neg (by omega)]
      exact h2 _ i hf (by omega) hi2
    · rw [xs_u_n e] at hi ⊢
      exact h2 f i hf hi hi2
theorem xo_sub {ln : Nat → Nat} {l l' : List xs_B} (h : xo_l ln l) (hs : l'.Sublist l) : xo_l ln l' :=
  ⟨fun x hx => h.1 x (hs.subset hx), h.2.1.sublist (hs.map _), Nat.le_trans hs.length_le h.2.2⟩
theorem xo_perm {ln : Nat → Nat} {l l' : List xs_B} (h : xo_l ln l) (hs : l'.Perm l) : xo_l ln l' :=
  ⟨fun x hx => h.1 x (hs.mem_iff.mp hx), (hs.map xs_ky).nodup_iff.mpr h.2.1, by rw [hs.length_eq]; exact h.2.2⟩
theorem xo_rot_c : ∀ {l : List xs_B} {p : Nat} {x : xs_B}, l[p]? = some x → (x :: l.eraseIdx p).Perm l
  | [], p, x, h => by simp at h
  | y :: t, 0, x, h => by
    rw [List.getElem?_cons_zero] at h
    cases h
    exact List.Perm.refl _
  | y :: t, p + 1, x, h => by
    rw [List.getElem?_cons_succ] at h
    exact (List.Perm.swap y x (t.eraseIdx p)).trans (List.Perm.cons y (xo_rot_c h))
theorem xo_rot {l : List xs_B} {p : Nat} (hp : p < l.length) : ((l[p]?).toList ++ l.eraseIdx p).Perm l := by
  obtain ⟨x, hx⟩ := xs_get_lt hp
  rw [hx]
  exact xo_rot_c hx
theorem xo_set {ln : Nat → Nat} {l : List xs_B} {i : Nat} {x : xs_B} {g : Nat → Int32} (h : xo_l ln l) (hx : l[i]? = some x) : xo_l ln (l.set i (x.1, x.2.1, false, g)) := by
  refine ⟨fun y hy => ?_, ?_, by rw [List.length_set]; exact h.2.2⟩
  · rcases List.mem_or_eq_of_mem_set hy with q | q
    · exact h.1 y q
    · subst q
      have := h.1 x (List.mem_of_getElem? hx)
      exact ⟨this.1, this.2.1, fun q => by cases q⟩
  · have e : (l.set i (x.1, x.2.1, false, g)).map xs_ky = l.map xs_ky := by
      rw [List.map_set]
      apply List.ext_getElem?
      intro j
      rw [List.getElem?_set]
      split
      · next hij =>
        subst hij
        split
        · rw [List.getElem?_map, hx]; rfl
        · next hl => exact absurd (by rw [List.length_map]; exact xs_lt hx) hl
      · rfl
    rw [e]
    exact h.2.1
theorem xo_push {ln : Nat → Nat} {l : List xs_B} {f b : Nat} {g : Nat → Int32} (h : xo_l ln l) (hf : f < 8) (hb : b < 4) (hl : l.length < 5) (hn : l.findIdx? (xs_is f b) = none) : xo_l ln ((f, b, false, g) :: l) := by
  refine ⟨fun x hx => ?_, ?_, by rw [List.length_cons]; omega⟩
  · rcases List.mem_cons.mp hx with rfl | q
    · exact ⟨hf, hb, fun q => by cases q⟩
    · exact h.1 x q
  · rw [List.map_cons, List.nodup_cons]
    refine ⟨fun hm => ?_, h.2.1⟩
    obtain ⟨x, hx, e⟩ := List.mem_map.mp hm
    rw [List.findIdx?_eq_none_iff] at hn
    have := hn x hx
    unfold xs_is at this
    have h1 : x.1 = f := congrArg Prod.fst e
    have h2 : x.2.1 = b := congrArg Prod.snd e
    rw [decide_eq_false_iff_not] at this
    exact this ⟨h1, h2⟩
theorem xo_wr {F : xs_F} {x : xs_B} (h : xs_okF F) (hx : x.1 < 8) : xo_h (xs_wr F x).1.1 F.2.1 := by
  have hh := (xo_iff.mp h).1
  by_cases ht : F.1.2.2.2.2.2 = 0
  · rw [xs_wr_t ht]
    exact xo_wrh (xo_op hh 1 x.1 x.2.1) hx
  · rw [xs_wr_f ht]
    exact xo_op hh 1 x.1 x.2.1
theorem xo_wr_l {F : xs_F} {x : xs_B} : (xs_wr F x).1.2 = F.2 := by
  by_cases ht : F.1.2.2.2.2.2 = 0
  · rw [xs_wr_t ht]
  · rw [xs_wr_f ht]
theorem xo_wr_o {F : xs_F} {x : xs_B} : (xs_wr F x).1.1.2.2.2.2.1 = F.1.2.2.2.2.1 + 1 := by
  by_cases ht : F.1.2.2.2.2.2 = 0
  · rw [xs_wr_t ht]
    rfl
  · rw [xs_wr_f ht]
    rfl
theorem xs_rm_cases {F : xs_F} (h5 : F.2.2.length ≤ 5) : (F.2.2.length < 5 ∧ xs_rm F = (F, true)) ∨ ∃ x, F.2.2.length = 5 ∧ F.2.2[4]? = some x ∧ ((x.2.2.1 = false ∧ xs_rm F = ((F.1, F.2.1, F.2.2.take 4), true)) ∨ (x.2.2.1 = true ∧ F.1.2.2.2.2.2 = 0 ∧ xs_rm F = ((xs_wrh (xs_op F.1 1 x.1 x.2.1).1 (F.2.1 x.1) x, F.2.1, F.2.2.take 4), true)) ∨ (x.2.2.1 = true ∧ F.1.2.2.2.2.2 ≠ 0 ∧ xs_rm F = (((xs_op F.1 1 x.1 x.2.1).1, F.2), false))) := by
  by_cases hl : F.2.2.length < 5
  · exact Or.inl ⟨hl, if_pos hl⟩
  · right
    obtain ⟨x, hx⟩ := xs_get_lt (l := F.2.2) (i := 4) (by omega)
    refine ⟨x, by omega, hx, ?_⟩
    have e : xs_rm F = if x.2.2.1 = true then (if (xs_wr F x).2 = true then (((xs_wr F x).1.1, F.2.1, F.2.2.take 4), true) else ((xs_wr F x).1, false)) else ((F.1, F.2.1, F.2.2.take 4), true) := by
      unfold xs_rm
      rw [if_neg hl, hx]
    cases hd : x.2.2.1 with
    | false =>
      left
      rw [hd, if_neg (by decide)] at e
      exact ⟨rfl, e⟩
    | true =>
      right
      rw [hd, if_pos rfl] at e
      by_cases ht : F.1.2.2.2.2.2 = 0
      · left
        rw [xs_wr_t ht, if_pos rfl] at e
        exact ⟨rfl, ht, e⟩
      · right
        rw [xs_wr_f ht, if_neg (show ¬ (false = true) by decide)] at e
        exact ⟨rfl, ht, e⟩
/-- room: at most one operation more -/
theorem xo_rm {F : xs_F} (h : xs_okF F) : xs_okF (xs_rm F).1 ∧ (xs_rm F).1.1.2.2.2.2.1 ≤ F.1.2.2.2.2.1 + 1 ∧ (xs_rm F).1.2.1 = F.2.1 ∧ ((xs_rm F).2 = true → (xs_rm F).1.2.2.length < 5) ∧ (xs_rm F).1.2.2.Sublist F.2.2 := by
  have h' := xo_iff.mp h
  rcases xs_rm_cases h.2.2.2.2.1 with ⟨hl, e⟩ | ⟨x, hl, hx, ⟨hd, e⟩ | ⟨hd, ht, e⟩ | ⟨hd, ht, e⟩⟩
  · rw [e]
    exact ⟨h, Nat.le_succ _, rfl, fun _ => hl, List.Sublist.refl _⟩
  · rw [e]
    exact ⟨xo_iff.mpr ⟨h'.1, xo_sub h'.2 (List.take_sublist _ _)⟩, Nat.le_succ _, rfl, fun _ => by show (F.2.2.take 4).length < 5; rw [List.length_take]; omega, List.take_sublist _ _⟩
  · rw [e]
    exact ⟨xo_iff.mpr ⟨xo_wrh (xo_op h'.1 1 x.1 x.2.1) (h.2.2.1 4 x hx).1, xo_sub h'.2 (List.take_sublist _ _)⟩, Nat.le_refl _, rfl, fun _ => by show (F.2.2.take 4).length < 5; rw [List.length_take]; omega, List.take_sublist _ _⟩
  · rw [e]
    exact ⟨xo_iff.mpr ⟨xo_op h'.1 1 x.1 x.2.1, h'.2⟩, Nat.le_refl _, rfl, (fun q => by cases q), List.Sublist.refl _⟩
theorem xo_in {F : xs_F} {f b : Nat} (h : xs_okF F) (hf : f < 8) (hb : b < 4) (hl : F.2.2.length < 5) (hn : F.2.2.findIdx? (xs_is f b) = none) : xs_okF (xs_in F f b).1 ∧ (xs_in F f b).1.1.2.2.2.2.1 ≤ F.1.2.2.2.2.1 + 1 ∧ (xs_in F f b).1.2.1 = F.2.1 := by
  have h' := xo_iff.mp h
  unfold xs_in
  split
  · split
    · exact ⟨xo_iff.mpr ⟨xo_op h'.1 0 f b, xo_push h'.2 hf hb hl hn⟩, Nat.le_refl _, rfl⟩
    · exact ⟨xo_iff.mpr ⟨xo_op h'.1 0 f b, h'.2⟩, Nat.le_refl _, rfl⟩
  · exact ⟨xo_iff.mpr ⟨h'.1, xo_push h'.2 hf hb hl hn⟩, Nat.le_succ _, rfl⟩
theorem xs_fi_sub {l l' : List xs_B} {f b : Nat} (hs : l'.Sublist l) (h : l.findIdx? (xs_is f b) = none) : l'.findIdx? (xs_is f b) = none := by
  rw [List.findIdx?_eq_none_iff] at h ⊢
  exact fun x hx => h x (hs.subset hx)
theorem xo_get {F : xs_F} {f b : Nat} (h : xs_okF F) (hf : f < 8) (hb : b < 4) : xs_okF (xs_get F f b).1 ∧ (xs_get F f b).1.1.2.2.2.2.1 ≤ F.1.2.2.2.2.1 + 2 ∧ (xs_get F f b).1.2.1 = F.2.1 := by
  cases hi : F.2.2.findIdx? (xs_is f b) with
  | some i =>
    rw [xs_get_fi hi]
    have h' := xo_iff.mp h
    exact ⟨xo_iff.mpr ⟨h'.1, xo_perm h'.2 (xo_rot (by obtain ⟨x, hx, -⟩ := xs_fi_is hi; exact xs_lt hx))⟩, by show F.1.2.2.2.2.1 ≤ _; omega, rfl⟩
  | none =>
    obtain ⟨r1, r2, r3, r4, r5⟩ := xo_rm h
    have e : xs_get F f b = if (xs_rm F).2 = true then xs_in (xs_rm F).1 f b else xs_rm F := by
      unfold xs_get
      rw [hi]
    rw [e]
    split
    · next ht =>
      obtain ⟨i1, i2, i3⟩ := xo_in r1 hf hb (r4 ht) (xs_fi_sub r5 hi)
      exact ⟨i1, by omega, i3.trans r3⟩
    · exact ⟨r1, by omega, r3⟩
end
section
theorem xr_C_clean {l : List xs_B} {m m' : xk_M} {r : xk_P} {β : Nat → Nat} {i : Nat} {x : xs_B} (hz : m 7 3 = nI l.length) (hl5 : l.length ≤ 5) (hβ : ∀ i, i < 5 → β i < 5 ∧ r 9 i = some (10 + 2 * β i)) (hinj : ∀ i j, i < 5 → j < 5 → β i = β j → i = j) (hB : ∀ (i : Nat) (x : xs_B), l[i]? = some x → xr_B x (10 + 2 * β i) m) (hx : l[i]? = some x) (h7 : m' 7 3 = m 7 3) (hm : ∀ a, 10 ≤ a → a < 20 → a ≠ 10 + 2 * β i → m' a = m a) (hd : ∀ k, m' (10 + 2 * β i) k = if k = 2 then nI 0 else m (10 + 2 * β i) k) : xr_C (l.set i (x.1, x.2.1, false, x.2.2.2)) m' r := by
  have hi := xs_lt hx
  refine ⟨by rw [List.length_set]; exact h7.trans hz, by rw [List.length_set]; exact hl5, β, hβ, hinj, fun j y hy => ?_⟩
  have hj : j < 5 := by
    have := xs_lt hy
    rw [List.length_set] at this
    omega
  have bj := (hβ j hj).1
  rw [List.getElem?_set] at hy
  split at hy
  · next e =>
    subst e
    cases hy
    obtain ⟨b0, b1, b2, b3⟩ := hB i x hx
    refine ⟨by rw [hd, if_neg (by decide)]; exact b0, by rw [hd, if_neg (by decide)]; exact b1, by rw [hd, if_pos rfl]; rfl, fun k hk => ?_⟩
    rw [hm _ (by omega) (by omega) (by omega)]
    exact b3 k hk
  · next e =>
    have hne : β j ≠ β i := fun q => e (hinj i j (by omega) hj q.symm)
    exact xr_B_kept (hB j y hy) (hm _ (by omega) (by omega) (by omega)) (hm _ (by omega) (by omega) (by omega))
theorem xs_sy_skip {F : xs_F} {f w b : Nat} (hb : b < 4) (h : F.2.2.findIdx? (xs_is f b) = none ∨ ∃ i x, F.2.2.findIdx? (xs_is f b) = some i ∧ F.2.2[i]? = some x ∧ x.2.2.1 = false) : xs_sy f (4 - b) w F = xs_sy f (4 - (b + 1)) w F := by
  obtain ⟨k, hk⟩ : ∃ k, 4 - b = k + 1 := ⟨3 - b, by omega⟩
  have hk2 : 4 - (b + 1) = k := by omega
  have hk3 : 3 - k = b := by omega
  rw [hk, hk2]
  show (match F.2.2.findIdx? (xs_is f (3 - k)) with | none => _ | some i => _) = _
  rw [hk3]
  rcases h with h | ⟨i, x, h1, h2, h3⟩
  · rw [h]
  · rw [h1]
    show (match F.2.2[i]? with | none => _ | some x => _) = _
    rw [h2]
    show (if x.2.2.1 = true then _ else _) = _
    rw [h3, if_neg (by decide)]
theorem xs_sy_t {F : xs_F} {f w b i : Nat} {x : xs_B} (hb : b < 4) (h1 : F.2.2.findIdx? (xs_is f b) = some i) (h2 : F.2.2[i]? = some x) (h3 : x.2.2.1 = true) (h4 : F.1.2.2.2.2.2 = 0) : xs_sy f (4 - b) w F = xs_sy f (4 - (b + 1)) (w + 1) (xs_wrh (xs_op F.1 1 x.1 x.2.1).1 (F.2.1 x.1) x, F.2.1, F.2.2.set i (x.1, x.2.1, false, x.2.2.2)) := by
  obtain ⟨k, hk⟩ : ∃ k, 4 - b = k + 1 := ⟨3 - b, by omega⟩
  have hk2 : 4 - (b + 1) = k := by omega
  have hk3 : 3 - k = b := by omega
  rw [hk, hk2]
  show (match F.2.2.findIdx? (xs_is f (3 - k)) with | none => _ | some i => _) = _
  rw [hk3, h1]
  show (match F.2.2[i]? with | none => _ | some x => _) = _
  rw [h2]
  show (if x.2.2.1 = true then _ else _) = _
  rw [if_pos h3, xs_wr_t h4, if_pos rfl]
theorem xs_sy_f {F : xs_F} {f w b i : Nat} {x : xs_B} (hb : b < 4) (h1 : F.2.2.findIdx? (xs_is f b) = some i) (h2 : F.2.2[i]? = some x) (h3 : x.2.2.1 = true) (h4 : F.1.2.2.2.2.2 ≠ 0) : xs_sy f (4 - b) w F = (-8, ((xs_op F.1 1 x.1 x.2.1).1, F.2)) := by
  obtain ⟨k, hk⟩ : ∃ k, 4 - b = k + 1 := ⟨3 - b, by omega⟩
  have hk3 : 3 - k = b := by omega
  rw [hk]
  show (match F.2.2.findIdx? (xs_is f (3 - k)) with | none => _ | some i => _) = _
  rw [hk3, h1]
  show (match F.2.2[i]? with | none => _ | some x => _) = _
  rw [h2]
  show (if x.2.2.1 = true then _ else _) = _
  rw [if_pos h3, xs_wr_f h4, if_neg (show ¬ (false = true) by decide)]
theorem xo_sy1 {F : xs_F} {i : Nat} {x : xs_B} (h : xs_okF F) (hx : F.2.2[i]? = some x) : xs_okF (xs_wrh (xs_op F.1 1 x.1 x.2.1).1 (F.2.1 x.1) x, F.2.1, F.2.2.set i (x.1, x.2.1, false, x.2.2.2)) :=
  xo_iff.mpr ⟨xo_wrh (xo_op (xo_iff.mp h).1 1 x.1 x.2.1) (h.2.2.1 i x hx).1, xo_set (xo_iff.mp h).2 hx⟩

set_option maxRecDepth 20000 in
set_option maxHeartbeats 4000000 in
theorem l_wfo {E : xk_E} {n : Nat} {Q : xk_Q} {r : xk_P} {f : Nat} (hn : 74 ≤ n) (hS : xr_S r n) (hf : f < 8) : ∀ (k : Nat) (b w : Nat) (F : xs_F) (m : xk_M) (v4 : Option xk_V), 4 - b < k → b ≤ 4 → xr_F F m r → xs_okF F → F.1.2.2.2.2.1 + (4 - b) < 2 ^ 20 → (∀ m', xr_F (xs_sy f (4 - b) w F).2 m' r → (∀ a, 20 ≤ a → m' a = m a) → Q (some (.inl (xs_sy f (4 - b) w F).1)) n m' r) → xk_W E m_Cache_writeFileOut 4 [some (.inr (some 7)), some (.inl (nI f)), some (.inl (nI w)), some (.inl (nI b)), v4] [] n m r 0 0 Q := by
  intro k
  induction k with
  | zero => intro b w F m v4 h; exact absurd h (Nat.not_lt_zero _)
  | succ k ih =>
    intro b w F m v4 hk hb hF hok hsm hQ
    refine xk_iload_n (pc := 4) d_Cache_writeFileOut_4 rfl ?_
    refine xk_iconst (pc := 5) (v := nI 4) d_Cache_writeFileOut_5 (by decide) ?_
    first | refine xk_icmp_geN (pc := 6) (tgt := 62) d_Cache_writeFileOut_6 rfl (by omega) (by omega) (fun c_6 => ?_) (fun c_6 => ?_) | refine xk_icmp_ge (pc := 6) (tgt := 62) d_Cache_writeFileOut_6 rfl (fun c_6 => ?_) (fun c_6 => ?_)
    · have e : b = 4 := by omega
      subst e
      refine xk_iload_n (pc := 62) d_Cache_writeFileOut_62 rfl ?_
      refine xk_iret (pc := 63) rfl d_Cache_writeFileOut_63 rfl (Nat.le_of_ble_eq_true rfl) (Nat.le_of_ble_eq_true rfl) ?_
      exact hQ m hF (fun _ _ => rfl)
    · refine xk_aload_n (pc := 9) d_Cache_writeFileOut_9 rfl ?_
      refine xk_iload_n (pc := 10) d_Cache_writeFileOut_10 rfl ?_
      refine xk_iload_n (pc := 11) d_Cache_writeFileOut_11 rfl ?_
      refine xk_cV2 (pc := 12) d_Cache_writeFileOut_12 ml_Cache_37 cz_Cache_find ⟨rfl, rfl⟩ rfl (by first | rfl | assumption) (by omega) (by omega) (Nat.le_of_ble_eq_true rfl) ⟨(Nat.le_of_ble_eq_true rfl), (Nat.le_of_ble_eq_true rfl)⟩ ?_
      refine c_Cache_find hn hS hF hok hf c_6 (fun i ei hi => ?_) (fun ei => ?_)
      · obtain ⟨x, hx, hx1, hx2⟩ := xs_fi_is ei
        obtain ⟨hz, hl5, β, hβ, hinj, hB⟩ := hF.2.2
        have hi5 : i < 5 := by omega
        obtain ⟨hj, hr9⟩ := hβ i hi5
        have hBi := hB i x hx
        have hkb := xr_kd_blk _ hj
        obtain ⟨hx8, hx4, hxd⟩ := hok.2.2.1 i x hx
        refine xk_istore (pc := 15) d_Cache_writeFileOut_15 (by decide) ?_
        refine xk_iload (pc := 17) d_Cache_writeFileOut_17 rfl ?_
        refine xk_iconst (pc := 19) (v := (-1)) d_Cache_writeFileOut_19 (by decide) ?_
        first | refine xk_icmp_eqN (pc := 20) (tgt := 56) d_Cache_writeFileOut_20 rfl (by omega) (by omega) (fun c_20 => ?_) (fun c_20 => ?_) | refine xk_icmp_eq (pc := 20) (tgt := 56) d_Cache_writeFileOut_20 rfl (fun c_20 => ?_) (fun c_20 => ?_)
        · exact absurd c_20 (xs_nm1 (by omega))
        · refine xk_aload_n (pc := 23) d_Cache_writeFileOut_23 rfl ?_
          refine xk_getRo (pc := 24) d_Cache_writeFileOut_24 fl_Cache_17 (by first | rfl | assumption) rfl (by omega) (by omega) (hS _ _ _ rfl (by omega)) ?_
          refine xk_iload (pc := 27) d_Cache_writeFileOut_27 rfl ?_
          refine xk_aaloado (pc := 29) d_Cache_writeFileOut_29 (by first | rfl | assumption) (by decide) (by decide) (by omega) (by omega) rfl (by omega) (by decide) hr9 ?_
          refine xk_getIo (pc := 30) d_Cache_writeFileOut_30 fl_Cache_33 (by first | rfl | assumption) rfl (by omega) (by omega) hBi.2.2.1 ?_
          first | refine xk_if_eqN (pc := 33) (tgt := 56) d_Cache_writeFileOut_33 rfl (by omega) (fun c_33 => ?_) (fun c_33 => ?_) | refine xk_if_eq (pc := 33) (tgt := 56) d_Cache_writeFileOut_33 rfl (fun c_33 => ?_) (fun c_33 => ?_)
          · rw [xs_bi_z] at c_33
            rw [xs_sy_skip c_6 (Or.inr ⟨i, x, ei, hx, c_33⟩)] at hQ
            refine xk_iincN (pc := 56) (d := 1) d_Cache_writeFileOut_56 rfl ?_
            refine xk_goto (pc := 59) (tgt := 4) d_Cache_writeFileOut_59 rfl ?_
            first
              | (have hC := xr_C_clean hz hl5 hβ hinj hB hx (by rw [hm1 7 (by omega) (by omega) (by omega) (by omega) (by omega)]) (fun a _ _ ha => hm1 a (by omega) (by omega) (by omega) (by omega) ha) hk1
                 rw [xs_sy_t c_6 ei hx c_34 z] at hQ
                 exact ih (b + 1) (w + 1) (xs_wrh (xs_op F.1 1 x.1 x.2.1).1 (F.2.1 x.1) x, F.2.1, F.2.2.set i (x.1, x.2.1, false, x.2.2.2)) m1 _ (by omega) (by omega) ⟨hR1, xr_L_kept hF.2.1 (hm1 8 (by omega) (by omega) (by omega) (by omega) (by omega)), hC⟩ (xo_sy1 hok hx) (by show F.1.2.2.2.2.1 + 1 + (4 - (b + 1)) < 2 ^ 20; omega) (fun m2 hF2 hm2 => hQ m2 hF2 (fun a ha => (hm2 a ha).trans (hm1 a (by omega) (by omega) (by omega) (by omega) (by omega)))))
              | exact ih (b + 1) w F m _ (by omega) (by omega) hF hok (by omega) hQ
          · have c_34 := xs_bi_nz c_33
            refine xk_aload_n (pc := 36) d_Cache_writeFileOut_36 rfl ?_
            refine xk_aload_n (pc := 37) d_Cache_writeFileOut_37 rfl ?_
            refine xk_getRo (pc := 38) d_Cache_writeFileOut_38 fl_Cache_17 (by first | rfl | assumption) rfl (by omega) (by omega) (hS _ _ _ rfl (by omega)) ?_
            refine xk_iload (pc := 41) d_Cache_writeFileOut_41 rfl ?_
            refine xk_aaloado (pc := 43) d_Cache_writeFileOut_43 (by first | rfl | assumption) (by decide) (by decide) (by omega) (by omega) rfl (by omega) (by decide) hr9 ?_
            refine xk_cV1 (pc := 44) d_Cache_writeFileOut_44 ml_Cache_49 cz_Cache_writeOut ⟨rfl, rfl⟩ rfl (by first | rfl | assumption) (by omega) (by omega) (Nat.le_of_ble_eq_true rfl) ⟨(Nat.le_of_ble_eq_true rfl), (Nat.le_of_ble_eq_true rfl)⟩ ?_
            refine c_Cache_writeOut (h := F.1) (x := x) (ln := F.2.1 x.1) hn hS hF.1 (by omega) (by have := hok.2.2.2.2.2; omega) (by have := hok.1 x.1 hx8; omega) hx8 hx4 (hok.1 x.1 hx8).2 (hF.2.1 x.1 hx8) hj hBi (fun z m1 hR1 hm1 hk1 => ?_) (fun z m1 hR1 hm1 => ?_)
            · refine xk_if_ne (pc := 47) (tgt := 53) d_Cache_writeFileOut_47 rfl (fun _ => ?_) (fun h => absurd h (by decide))
              refine xk_iincN (pc := 53) (d := 1) d_Cache_writeFileOut_53 rfl ?_
              refine xk_iincN (pc := 56) (d := 1) d_Cache_writeFileOut_56 rfl ?_
              refine xk_goto (pc := 59) (tgt := 4) d_Cache_writeFileOut_59 rfl ?_
              first
                | (have hC := xr_C_clean hz hl5 hβ hinj hB hx (by rw [hm1 7 (by omega) (by omega) (by omega) (by omega) (by omega)]) (fun a _ _ ha => hm1 a (by omega) (by omega) (by omega) (by omega) ha) hk1
                   rw [xs_sy_t c_6 ei hx c_34 z] at hQ
                   exact ih (b + 1) (w + 1) (xs_wrh (xs_op F.1 1 x.1 x.2.1).1 (F.2.1 x.1) x, F.2.1, F.2.2.set i (x.1, x.2.1, false, x.2.2.2)) m1 _ (by omega) (by omega) ⟨hR1, xr_L_kept hF.2.1 (hm1 8 (by omega) (by omega) (by omega) (by omega) (by omega)), hC⟩ (xo_sy1 hok hx) (by show F.1.2.2.2.2.1 + 1 + (4 - (b + 1)) < 2 ^ 20; omega) (fun m2 hF2 hm2 => hQ m2 hF2 (fun a ha => (hm2 a ha).trans (hm1 a (by omega) (by omega) (by omega) (by omega) (by omega)))))
                | exact ih (b + 1) w F m _ (by omega) (by omega) hF hok (by omega) hQ
            · refine xk_if_ne (pc := 47) (tgt := 53) d_Cache_writeFileOut_47 rfl (fun h => absurd (by decide) h) (fun _ => ?_)
              refine xk_bipush (pc := 50) (v := (-8)) d_Cache_writeFileOut_50 (by decide) ?_
              refine xk_iret (pc := 52) rfl d_Cache_writeFileOut_52 rfl (Nat.le_of_ble_eq_true rfl) (Nat.le_of_ble_eq_true rfl) ?_
              rw [xs_sy_f c_6 ei hx c_34 z] at hQ
              exact hQ m1 ⟨hR1, xr_L_kept hF.2.1 (hm1 8 (by omega) (by omega)), xr_C_kept hF.2.2 rfl (by rw [hm1 7 (by omega) (by omega)]) (fun a _ _ => hm1 a (by omega) (by omega))⟩ (fun a _ => hm1 a (by omega) (by omega))
      · rw [xs_sy_skip c_6 (Or.inl ei)] at hQ
        refine xk_istore (pc := 15) d_Cache_writeFileOut_15 (by decide) ?_
        refine xk_iload (pc := 17) d_Cache_writeFileOut_17 rfl ?_
        refine xk_iconst (pc := 19) (v := (-1)) d_Cache_writeFileOut_19 (by decide) ?_
        refine xk_icmp_eq (pc := 20) (tgt := 56) d_Cache_writeFileOut_20 rfl (fun _ => ?_) (fun h => absurd (by decide) h)
        refine xk_iincN (pc := 56) (d := 1) d_Cache_writeFileOut_56 rfl ?_
        refine xk_goto (pc := 59) (tgt := 4) d_Cache_writeFileOut_59 rfl ?_
        first
          | (have hC := xr_C_clean hz hl5 hβ hinj hB hx (by rw [hm1 7 (by omega) (by omega) (by omega) (by omega) (by omega)]) (fun a _ _ ha => hm1 a (by omega) (by omega) (by omega) (by omega) ha) hk1
             rw [xs_sy_t c_6 ei hx c_34 z] at hQ
             exact ih (b + 1) (w + 1) (xs_wrh (xs_op F.1 1 x.1 x.2.1).1 (F.2.1 x.1) x, F.2.1, F.2.2.set i (x.1, x.2.1, false, x.2.2.2)) m1 _ (by omega) (by omega) ⟨hR1, xr_L_kept hF.2.1 (hm1 8 (by omega) (by omega) (by omega) (by omega) (by omega)), hC⟩ (xo_sy1 hok hx) (by show F.1.2.2.2.2.1 + 1 + (4 - (b + 1)) < 2 ^ 20; omega) (fun m2 hF2 hm2 => hQ m2 hF2 (fun a ha => (hm2 a ha).trans (hm1 a (by omega) (by omega) (by omega) (by omega) (by omega)))))
          | exact ih (b + 1) w F m _ (by omega) (by omega) hF hok (by omega) hQ

set_option maxRecDepth 20000 in
set_option maxHeartbeats 4000000 in
theorem c_Cache_writeFileOut {E : xk_E} {n : Nat} {m : xk_M} {r : xk_P} {Q : xk_Q} (hn : 74 ≤ n) (hS : xr_S r n) {F : xs_F} (hF : xr_F F m r) (hok : xs_okF F) {f : Nat} (hf : f < 8) (hsm : F.1.2.2.2.2.1 + 4 < 2 ^ 20) (hQ : ∀ m', xr_F (xs_sy f 4 0 F).2 m' r → (∀ a, 20 ≤ a → m' a = m a) → Q (some (.inl (xs_sy f 4 0 F).1)) n m' r) : xk_W E m_Cache_writeFileOut 0 (xk_ent m_Cache_writeFileOut [.inr (some 7), .inl (nI f)]) [] n m r 0 0 Q := by
  show xk_W E m_Cache_writeFileOut 0 [some (.inr (some 7)), some (.inl (nI f)), none, none, none] [] n m r 0 0 Q
  refine xk_iconst (pc := 0) (v := nI 0) d_Cache_writeFileOut_0 (by decide) ?_
  refine xk_istore_n (pc := 1) d_Cache_writeFileOut_1 (by decide) ?_
  refine xk_iconst (pc := 2) (v := nI 0) d_Cache_writeFileOut_2 (by decide) ?_
  refine xk_istore_n (pc := 3) d_Cache_writeFileOut_3 (by decide) ?_
  exact l_wfo hn hS hf 5 0 0 F m none (by omega) (by omega) hF hok (by omega) hQ
end
section
/-! the openings, the pipes, the processes of the class -/
theorem xs_cnt_u {g : Nat → Option Nat} {k : Nat} {v : Option Nat} {o : Nat} : ∀ K, k < K → xs_cnt (xs_u g k v) o K + (if g k = some o then 1 else 0) = xs_cnt g o K + (if v = some o then 1 else 0)
  | 0, h => absurd h (Nat.not_lt_zero _)
  | K + 1, h => by
    show xs_cnt (xs_u g k v) o K + (if xs_u g k v K = some o then 1 else 0) + _ = xs_cnt g o K + (if g K = some o then 1 else 0) + _
    by_cases e : k = K
    · subst e
      rw [xs_u_s]
      have : ∀ J, J ≤ k → xs_cnt (xs_u g k v) o J = xs_cnt g o J := by
        intro J
        induction J with
        | zero => intro _; rfl
        | succ J ih =>
          intro hJ
          show xs_cnt (xs_u g k v) o J + (if xs_u g k v J = some o then 1 else 0) = xs_cnt g o J + (if g J = some o then 1 else 0)
          rw [ih (by omega), xs_u_n (by omega)]
      rw [this k (Nat.le_refl _)]
      omega
    · rw [xs_u_n (Ne.symm e)]
      have := xs_cnt_u (g := g) (k := k) (v := v) (o := o) K (by omega)
      omega
theorem xs_cnt_le {g : Nat → Option Nat} {o : Nat} : ∀ K, xs_cnt g o K ≤ K
  | 0 => Nat.le_refl _
  | K + 1 => by
    show xs_cnt g o K + (if g K = some o then 1 else 0) ≤ K + 1
    have := xs_cnt_le (g := g) (o := o) K
    split <;> omega
theorem xs_cnt_pos {g : Nat → Option Nat} {o k : Nat} : ∀ K, k < K → g k = some o → 0 < xs_cnt g o K
  | 0, h, _ => absurd h (Nat.not_lt_zero _)
  | K + 1, h, hk => by
    show 0 < xs_cnt g o K + (if g K = some o then 1 else 0)
    by_cases e : k = K
    · subst e
      rw [if_pos hk]
      omega
    · have := xs_cnt_pos (g := g) (o := o) K (by omega) hk
      omega
def xr_I (O : xs_O) (pa : Nat → Nat) (o : Nat) (m : xk_M) (r : xk_P) : Prop := m (22 + o) 1 = nI (O.2.2.2.1 o) ∧ (O.2.1 o = 0 → r (22 + o) 4 = none ∧ m (22 + o) 2 = nI (O.2.2.1 o) ∧ m (22 + o) 3 = nI (O.2.2.2.2.1 o)) ∧ (O.2.1 o ≠ 0 → r (22 + o) 4 = some (pa (O.2.2.1 o)))
def xr_P (O : xs_O) (A q : Nat) (m : xk_M) (n : Nat) : Prop := 74 ≤ A ∧ A % 2 = 0 ∧ A + 1 < n ∧ (∃ old, old < 4 ∧ m A 1 = nI old ∧ m A 2 = nI (O.2.2.2.2.2 q).length ∧ ∀ (i : Nat) (x : Int32), (O.2.2.2.2.2 q)[i]? = some x → m (A + 1) ((old + i) % 4) = x) ∧ m A 3 = xs_bi (xs_end O q 1) ∧ m A 4 = xs_bi (xs_end O q 2)
def xr_O (O : xs_O) (m : xk_M) (r : xk_P) (n : Nat) : Prop := (∀ o, o < 16 → m (22 + o) 0 = nI (xs_cnt O.1 o 42)) ∧ (∀ p d, p < 7 → d < 6 → r (40 + 2 * p) d = (O.1 (6 * p + d)).map (fun o => 22 + o)) ∧ ∃ pa : Nat → Nat, (∀ o, o < 16 → xs_used O o = true → xr_I O pa o m r) ∧ (∀ o, o < 16 → xs_used O o = true → O.2.1 o ≠ 0 → xr_P O (pa (O.2.2.1 o)) (O.2.2.1 o) m n) ∧ (∀ o o', o < 16 → o' < 16 → xs_used O o = true → xs_used O o' = true → O.2.1 o ≠ 0 → O.2.1 o' ≠ 0 → pa (O.2.2.1 o) = pa (O.2.2.1 o') → O.2.2.1 o = O.2.2.1 o')
def xr_T (T : xs_T) (m : xk_M) : Prop := (∀ p, p < 7 → m (39 + 2 * p) 0 = nI (T.1 p)) ∧ (∀ p, 2 ≤ p → p < 7 → T.1 p ≠ 0 → m (39 + 2 * p) 1 = nI (T.2.1 p)) ∧ m 41 1 = -1 ∧ (∀ p, p < 7 → T.1 p = 2 → m (39 + 2 * p) 2 = nI (T.2.2 p))
def xs_okT (T : xs_T) : Prop := T.1 0 = 0 ∧ T.1 1 = 1 ∧ (∀ p, p < 7 → T.1 p ≤ 2) ∧ (∀ p, 2 ≤ p → p < 7 → T.1 p ≠ 0 → T.2.1 p < 7) ∧ (∀ p, p < 7 → T.1 p = 2 → T.2.2 p < 100)
def xs_okO (O : xs_O) (T : xs_T) : Prop := (∀ k o, k < 42 → O.1 k = some o → o < 16) ∧ (∀ p d, p < 7 → d < 6 → T.1 p ≠ 1 → O.1 (6 * p + d) = none) ∧ (∀ o, o < 16 → xs_used O o = true → O.2.1 o ≤ 2 ∧ O.2.2.2.1 o < 32 ∧ (O.2.1 o = 0 → O.2.2.1 o < 8 ∧ O.2.2.2.2.1 o ≤ 32) ∧ (O.2.1 o ≠ 0 → O.2.2.1 o < 16 ∧ O.2.2.2.1 o = O.2.1 o ∧ (O.2.2.2.2.2 (O.2.2.1 o)).length ≤ 4)) ∧ (∀ o o', o < 16 → o' < 16 → xs_used O o = true → xs_used O o' = true → O.2.1 o ≠ 0 → O.2.1 o = O.2.1 o' → O.2.2.1 o = O.2.2.1 o' → o = o')
theorem xs_used_iff {O : xs_O} {o : Nat} : xs_used O o = true ↔ xs_cnt O.1 o 42 ≠ 0 := by
  unfold xs_used
  exact decide_eq_true_iff
theorem xs_used_of {O : xs_O} {k o : Nat} (hk : k < 42) (h : O.1 k = some o) : xs_used O o = true := xs_used_iff.mpr (by have := xs_cnt_pos 42 hk h; omega)
theorem xs_b1 : ∀ md, md < 32 → (nI md &&& nI 1 = 0 ↔ md % 2 = 0) := by decide
theorem xs_b2 : ∀ md, md < 32 → (nI md &&& nI 2 = 0 ↔ md / 2 % 2 = 0) := by decide
theorem xs_b4 : ∀ md, md < 32 → (nI md &&& nI 4 = 0 ↔ md / 4 % 2 = 0) := by decide
theorem xs_b8 : ∀ md, md < 32 → (nI md &&& nI 8 = 0 ↔ md / 8 % 2 = 0) := by decide
theorem xs_b16 : ∀ md, md < 32 → (nI md &&& nI 16 = 0 ↔ md / 16 = 0) := by decide
theorem xs_bm2 : ∀ md, md < 32 → (nI md &&& (-2) = 0 ↔ md ≤ 1) := by decide
theorem xs_least_n {p : Nat → Bool} : ∀ {k i : Nat}, (∀ j, i ≤ j → j < i + k → p j = false) → xs_least p i k = none
  | 0, i, _ => rfl
  | k + 1, i, h => by
    show (if p i = true then some i else xs_least p (i + 1) k) = none
    rw [if_neg (by rw [h i (Nat.le_refl _) (by omega)]; decide)]
    exact xs_least_n (fun j h1 h2 => h j (by omega) (by omega))
theorem xs_least_s {p : Nat → Bool} : ∀ {k i t : Nat}, i ≤ t → t < i + k → p t = true → (∀ j, i ≤ j → j < t → p j = false) → xs_least p i k = some t
  | 0, i, t, h1, h2, _, _ => by omega
  | k + 1, i, t, h1, h2, h3, h4 => by
    show (if p i = true then some i else xs_least p (i + 1) k) = some t
    by_cases e : i = t
    · subst e
      rw [if_pos h3]
    · rw [if_neg (by rw [h4 i (Nat.le_refl _) (by omega)]; decide)]
      exact xs_least_s (by omega) (by omega) h3 (fun j a b => h4 j (by omega) b)
theorem xs_least_sp {p : Nat → Bool} : ∀ {k i t : Nat}, xs_least p i k = some t → i ≤ t ∧ t < i + k ∧ p t = true ∧ ∀ j, i ≤ j → j < t → p j = false
  | 0, i, t, h => by cases h
  | k + 1, i, t, h => by
    change (if p i = true then some i else xs_least p (i + 1) k) = some t at h
    split at h
    · next hp =>
      cases h
      exact ⟨Nat.le_refl _, by omega, hp, fun j a b => by omega⟩
    · next hp =>
      obtain ⟨a, b, c, d⟩ := xs_least_sp h
      refine ⟨by omega, by omega, c, fun j x y => ?_⟩
      by_cases e : j = i
      · subst e
        cases hq : p j with
        | false => rfl
        | true => exact absurd hq hp
      · exact d j (by omega) y
theorem xs_least_np {p : Nat → Bool} : ∀ {k i : Nat}, xs_least p i k = none → ∀ j, i ≤ j → j < i + k → p j = false
  | 0, i, _, j, h1, h2 => by omega
  | k + 1, i, h, j, h1, h2 => by
    change (if p i = true then some i else xs_least p (i + 1) k) = none at h
    split at h
    · cases h
    · next hp =>
      by_cases e : j = i
      · subst e
        cases hq : p j with
        | false => rfl
        | true => exact absurd hq hp
      · exact xs_least_np h j (by omega) (by omega)

set_option maxRecDepth 20000 in
set_option maxHeartbeats 4000000 in
theorem c_Opening_may {E : xk_E} {n : Nat} {m : xk_M} {r : xk_P} {Q : xk_Q} (hn : 74 ≤ n) (hS : xr_S r n) {o : Nat} (ho : o < 16) {x u : Int32} (hx : m (22 + o) 1 = x) (h1 : ¬ x &&& u = 0 → Q (some (.inl (nI 1))) n m r) (h0 : x &&& u = 0 → Q (some (.inl (nI 0))) n m r) : xk_W E m_Opening_may 0 (xk_ent m_Opening_may [.inr (some (22 + o)), .inl u]) [] n m r 0 0 Q := by
  show xk_W E m_Opening_may 0 [some (.inr (some (22 + o))), some (.inl u)] [] n m r 0 0 Q
  have hko := xr_kd_op o ho
  refine xk_aload_n (pc := 0) d_Opening_may_0 rfl ?_
  refine xk_getIo (pc := 1) d_Opening_may_1 fl_Opening_15 (by first | rfl | assumption) rfl (by omega) (by omega) hx ?_
  refine xk_iload_n (pc := 4) d_Opening_may_4 rfl ?_
  refine xk_iand (pc := 5) d_Opening_may_5 ?_
  first | refine xk_if_eqN (pc := 6) (tgt := 13) d_Opening_may_6 rfl (by omega) (fun c_6 => ?_) (fun c_6 => ?_) | refine xk_if_eq (pc := 6) (tgt := 13) d_Opening_may_6 rfl (fun c_6 => ?_) (fun c_6 => ?_)
  · refine xk_iconst (pc := 13) (v := nI 0) d_Opening_may_13 (by decide) ?_
    refine xk_zret (pc := 14) rfl d_Opening_may_14 rfl rfl (Nat.le_of_ble_eq_true rfl) (Nat.le_of_ble_eq_true rfl) ?_
    exact h0 c_6
  · refine xk_iconst (pc := 9) (v := nI 1) d_Opening_may_9 (by decide) ?_
    refine xk_goto (pc := 10) (tgt := 14) d_Opening_may_10 rfl ?_
    refine xk_zret (pc := 14) rfl d_Opening_may_14 rfl rfl (Nat.le_of_ble_eq_true rfl) (Nat.le_of_ble_eq_true rfl) ?_
    exact h1 c_6

set_option maxRecDepth 20000 in
set_option maxHeartbeats 4000000 in
theorem c_Opening_isOfFile {E : xk_E} {n : Nat} {m : xk_M} {r : xk_P} {Q : xk_Q} (hn : 74 ≤ n) (hS : xr_S r n) {o : Nat} (ho : o < 16) {c f : Nat} (hc : c < 2 ^ 30) (hcc : m (22 + o) 0 = nI c) (h1 : c ≠ 0 → r (22 + o) 4 = none → m (22 + o) 2 = nI f → Q (some (.inl (nI 1))) n m r) (h0 : (c = 0 ∨ (∃ a, r (22 + o) 4 = some a) ∨ ¬ m (22 + o) 2 = nI f) → Q (some (.inl (nI 0))) n m r) : xk_W E m_Opening_isOfFile 0 (xk_ent m_Opening_isOfFile [.inr (some (22 + o)), .inl (nI f)]) [] n m r 0 0 Q := by
  show xk_W E m_Opening_isOfFile 0 [some (.inr (some (22 + o))), some (.inl (nI f))] [] n m r 0 0 Q
  have hko := xr_kd_op o ho
  refine xk_aload_n (pc := 0) d_Opening_isOfFile_0 rfl ?_
  refine xk_getIo (pc := 1) d_Opening_isOfFile_1 fl_Opening_9 (by first | rfl | assumption) rfl (by omega) (by omega) hcc ?_
  first | refine xk_if_leN (pc := 4) (tgt := 26) d_Opening_isOfFile_4 rfl (by omega) (fun c_4 => ?_) (fun c_4 => ?_) | refine xk_if_le (pc := 4) (tgt := 26) d_Opening_isOfFile_4 rfl (fun c_4 => ?_) (fun c_4 => ?_)
  · refine xk_iconst (pc := 26) (v := nI 0) d_Opening_isOfFile_26 (by decide) ?_
    refine xk_zret (pc := 27) rfl d_Opening_isOfFile_27 rfl rfl (Nat.le_of_ble_eq_true rfl) (Nat.le_of_ble_eq_true rfl) ?_
    first | exact h0 (Or.inl c_4) | exact h0 (Or.inr (Or.inl ⟨_, c_11⟩)) | exact h0 (Or.inr (Or.inr c_19))
  · refine xk_aload_n (pc := 7) d_Opening_isOfFile_7 rfl ?_
    refine xk_getR (pc := 8) d_Opening_isOfFile_8 fl_Opening_24 (by first | rfl | assumption) rfl (by omega) (by omega) ?_
    refine xk_ifnonnull (pc := 11) (tgt := 26) d_Opening_isOfFile_11 rfl (fun a_11 c_11 => ?_) (fun c_11 => ?_)
    · refine xk_iconst (pc := 26) (v := nI 0) d_Opening_isOfFile_26 (by decide) ?_
      refine xk_zret (pc := 27) rfl d_Opening_isOfFile_27 rfl rfl (Nat.le_of_ble_eq_true rfl) (Nat.le_of_ble_eq_true rfl) ?_
      first | exact h0 (Or.inl c_4) | exact h0 (Or.inr (Or.inl ⟨_, c_11⟩)) | exact h0 (Or.inr (Or.inr c_19))
    · refine xk_aload_n (pc := 14) d_Opening_isOfFile_14 rfl ?_
      refine xk_getI (pc := 15) d_Opening_isOfFile_15 fl_Opening_18 (by first | rfl | assumption) rfl (by omega) (by omega) ?_
      refine xk_iload_n (pc := 18) d_Opening_isOfFile_18 rfl ?_
      first | refine xk_icmp_neN (pc := 19) (tgt := 26) d_Opening_isOfFile_19 rfl (by omega) (by omega) (fun c_19 => ?_) (fun c_19 => ?_) | refine xk_icmp_ne (pc := 19) (tgt := 26) d_Opening_isOfFile_19 rfl (fun c_19 => ?_) (fun c_19 => ?_)
      · refine xk_iconst (pc := 26) (v := nI 0) d_Opening_isOfFile_26 (by decide) ?_
        refine xk_zret (pc := 27) rfl d_Opening_isOfFile_27 rfl rfl (Nat.le_of_ble_eq_true rfl) (Nat.le_of_ble_eq_true rfl) ?_
        first | exact h0 (Or.inl c_4) | exact h0 (Or.inr (Or.inl ⟨_, c_11⟩)) | exact h0 (Or.inr (Or.inr c_19))
      · refine xk_iconst (pc := 22) (v := nI 1) d_Opening_isOfFile_22 (by decide) ?_
        refine xk_goto (pc := 23) (tgt := 27) d_Opening_isOfFile_23 rfl ?_
        refine xk_zret (pc := 27) rfl d_Opening_isOfFile_27 rfl rfl (Nat.le_of_ble_eq_true rfl) (Nat.le_of_ble_eq_true rfl) ?_
        exact h1 (by omega) c_11 c_19

set_option maxRecDepth 20000 in
set_option maxHeartbeats 4000000 in
theorem c_Opening_becomeFile {E : xk_E} {n : Nat} {m : xk_M} {r : xk_P} {Q : xk_Q} (hn : 74 ≤ n) (hS : xr_S r n) {o : Nat} (ho : o < 16) {x y : Int32} (hQ : Q none n (xk_up (xk_up (xk_up m (22 + o) 2 x) (22 + o) 1 y) (22 + o) 3 (nI 0)) (xk_up r (22 + o) 4 none)) : xk_W E m_Opening_becomeFile 0 (xk_ent m_Opening_becomeFile [.inr (some (22 + o)), .inl x, .inl y]) [] n m r 0 0 Q := by
  show xk_W E m_Opening_becomeFile 0 [some (.inr (some (22 + o))), some (.inl x), some (.inl y)] [] n m r 0 0 Q
  have hko := xr_kd_op o ho
  refine xk_aload_n (pc := 0) d_Opening_becomeFile_0 rfl ?_
  refine xk_null (pc := 1) d_Opening_becomeFile_1 ?_
  refine xk_putR (pc := 2) d_Opening_becomeFile_2 fl_Opening_24 (by first | rfl | assumption) rfl (fun q hq h => by cases hq; first | exact absurd h (by decide) | exact ⟨rfl, rfl, rfl⟩) ⟨rfl, rfl⟩ (by omega) (by omega) ?_
  refine xk_aload_n (pc := 5) d_Opening_becomeFile_5 rfl ?_
  refine xk_iload_n (pc := 6) d_Opening_becomeFile_6 rfl ?_
  refine xk_putI (pc := 7) d_Opening_becomeFile_7 fl_Opening_18 (by first | rfl | assumption) rfl (fun q hq h => by cases hq; first | exact absurd h (by decide) | exact ⟨rfl, rfl, rfl⟩) ⟨rfl, rfl⟩ (by omega) (by omega) ?_
  refine xk_aload_n (pc := 10) d_Opening_becomeFile_10 rfl ?_
  refine xk_iload_n (pc := 11) d_Opening_becomeFile_11 rfl ?_
  refine xk_putI (pc := 12) d_Opening_becomeFile_12 fl_Opening_15 (by first | rfl | assumption) rfl (fun q hq h => by cases hq; first | exact absurd h (by decide) | exact ⟨rfl, rfl, rfl⟩) ⟨rfl, rfl⟩ (by omega) (by omega) ?_
  refine xk_aload_n (pc := 15) d_Opening_becomeFile_15 rfl ?_
  refine xk_iconst (pc := 16) (v := nI 0) d_Opening_becomeFile_16 (by decide) ?_
  refine xk_putI (pc := 17) d_Opening_becomeFile_17 fl_Opening_21 (by first | rfl | assumption) rfl (fun q hq h => by cases hq; first | exact absurd h (by decide) | exact ⟨rfl, rfl, rfl⟩) ⟨rfl, rfl⟩ (by omega) (by omega) ?_
  refine xk_vret (pc := 20) rfl d_Opening_becomeFile_20 rfl (Nat.le_of_ble_eq_true rfl) (Nat.le_of_ble_eq_true rfl) ?_
  exact hQ

set_option maxRecDepth 20000 in
set_option maxHeartbeats 4000000 in
theorem c_Opening_becomePipeEnd {E : xk_E} {n : Nat} {m : xk_M} {r : xk_P} {Q : xk_Q} (hn : 74 ≤ n) (hS : xr_S r n) {o : Nat} (ho : o < 16) {a : Nat} {y : Int32} (hQ : Q none n (xk_up m (22 + o) 1 y) (xk_up r (22 + o) 4 (some a))) : xk_W E m_Opening_becomePipeEnd 0 (xk_ent m_Opening_becomePipeEnd [.inr (some (22 + o)), .inr (some a), .inl y]) [] n m r 0 0 Q := by
  show xk_W E m_Opening_becomePipeEnd 0 [some (.inr (some (22 + o))), some (.inr (some a)), some (.inl y)] [] n m r 0 0 Q
  have hko := xr_kd_op o ho
  refine xk_aload_n (pc := 0) d_Opening_becomePipeEnd_0 rfl ?_
  refine xk_aload_n (pc := 1) d_Opening_becomePipeEnd_1 rfl ?_
  refine xk_putR (pc := 2) d_Opening_becomePipeEnd_2 fl_Opening_24 (by first | rfl | assumption) rfl (fun q hq h => by cases hq; first | exact absurd h (by decide) | exact ⟨rfl, rfl, rfl⟩) ⟨rfl, rfl⟩ (by omega) (by omega) ?_
  refine xk_aload_n (pc := 5) d_Opening_becomePipeEnd_5 rfl ?_
  refine xk_iload_n (pc := 6) d_Opening_becomePipeEnd_6 rfl ?_
  refine xk_putI (pc := 7) d_Opening_becomePipeEnd_7 fl_Opening_15 (by first | rfl | assumption) rfl (fun q hq h => by cases hq; first | exact absurd h (by decide) | exact ⟨rfl, rfl, rfl⟩) ⟨rfl, rfl⟩ (by omega) (by omega) ?_
  refine xk_vret (pc := 10) rfl d_Opening_becomePipeEnd_10 rfl (Nat.le_of_ble_eq_true rfl) (Nat.le_of_ble_eq_true rfl) ?_
  exact hQ

set_option maxRecDepth 20000 in
set_option maxHeartbeats 4000000 in
theorem c_Opening_leavePipe {E : xk_E} {n : Nat} {m : xk_M} {r : xk_P} {Q : xk_Q} (hn : 74 ≤ n) (hS : xr_S r n) {o : Nat} (ho : o < 16) {A : Nat} {x : Int32} (hx : m (22 + o) 1 = x) (hA : 74 ≤ A) (hA2 : A % 2 = 0) (hAn : A < n) (h1 : ¬ x &&& nI 1 = 0 → Q none n (xk_up m A 3 (nI 0)) r) (h0 : x &&& nI 1 = 0 → Q none n (xk_up m A 4 (nI 0)) r) : xk_W E m_Opening_leavePipe 0 (xk_ent m_Opening_leavePipe [.inr (some (22 + o)), .inr (some A)]) [] n m r 0 0 Q := by
  show xk_W E m_Opening_leavePipe 0 [some (.inr (some (22 + o))), some (.inr (some A))] [] n m r 0 0 Q
  have hko := xr_kd_op o ho
  have hkA := xr_kd_pi hA hA2
  refine xk_aload_n (pc := 0) d_Opening_leavePipe_0 rfl ?_
  refine xk_iconst (pc := 1) (v := nI 1) d_Opening_leavePipe_1 (by decide) ?_
  refine xk_cV1 (pc := 2) d_Opening_leavePipe_2 ml_Opening_32 cz_Opening_may ⟨rfl, rfl⟩ rfl (by first | rfl | assumption) (by omega) (by omega) (Nat.le_of_ble_eq_true rfl) ⟨(Nat.le_of_ble_eq_true rfl), (Nat.le_of_ble_eq_true rfl)⟩ ?_
  refine c_Opening_may hn hS ho hx (fun e => ?_) (fun e => ?_)
  · refine xk_if_eq (pc := 5) (tgt := 16) d_Opening_leavePipe_5 rfl (fun h => absurd h (by decide)) (fun _ => ?_)
    refine xk_aload_n (pc := 8) d_Opening_leavePipe_8 rfl ?_
    refine xk_iconst (pc := 9) (v := nI 0) d_Opening_leavePipe_9 (by decide) ?_
    refine xk_putI (pc := 10) d_Opening_leavePipe_10 fl_Opening_36 (by first | rfl | assumption) rfl (fun q hq h => by cases hq; first | exact absurd h (by decide) | exact ⟨rfl, rfl, rfl⟩) ⟨rfl, rfl⟩ (by omega) (by omega) ?_
    refine xk_goto (pc := 13) (tgt := 21) d_Opening_leavePipe_13 rfl ?_
    refine xk_vret (pc := 21) rfl d_Opening_leavePipe_21 rfl (Nat.le_of_ble_eq_true rfl) (Nat.le_of_ble_eq_true rfl) ?_
    first | exact h1 e | exact h0 e
  · refine xk_if_eq (pc := 5) (tgt := 16) d_Opening_leavePipe_5 rfl (fun _ => ?_) (fun h => absurd (by decide) h)
    refine xk_aload_n (pc := 16) d_Opening_leavePipe_16 rfl ?_
    refine xk_iconst (pc := 17) (v := nI 0) d_Opening_leavePipe_17 (by decide) ?_
    refine xk_putI (pc := 18) d_Opening_leavePipe_18 fl_Opening_42 (by first | rfl | assumption) rfl (fun q hq h => by cases hq; first | exact absurd h (by decide) | exact ⟨rfl, rfl, rfl⟩) ⟨rfl, rfl⟩ (by omega) (by omega) ?_
    refine xk_vret (pc := 21) rfl d_Opening_leavePipe_21 rfl (Nat.le_of_ble_eq_true rfl) (Nat.le_of_ble_eq_true rfl) ?_
    first | exact h1 e | exact h0 e

set_option maxRecDepth 20000 in
set_option maxHeartbeats 4000000 in
theorem c_Opening_loseHolder {E : xk_E} {n : Nat} {m : xk_M} {r : xk_P} {Q : xk_Q} (hn : 74 ≤ n) (hS : xr_S r n) {o : Nat} (ho : o < 16) {c : Nat} {x : Int32} (hc : m (22 + o) 0 = nI (c + 1)) (hc2 : c < 2 ^ 30) (hx : m (22 + o) 1 = x) (hA : ∀ A, r (22 + o) 4 = some A → c = 0 → 74 ≤ A ∧ A % 2 = 0 ∧ A < n) (h0 : (c ≠ 0 ∨ r (22 + o) 4 = none) → Q none n (xk_up m (22 + o) 0 (nI c)) r) (h1 : ∀ A, c = 0 → r (22 + o) 4 = some A → ¬ x &&& nI 1 = 0 → Q none n (xk_up (xk_up m (22 + o) 0 (nI c)) A 3 (nI 0)) r) (h2 : ∀ A, c = 0 → r (22 + o) 4 = some A → x &&& nI 1 = 0 → Q none n (xk_up (xk_up m (22 + o) 0 (nI c)) A 4 (nI 0)) r) : xk_W E m_Opening_loseHolder 0 (xk_ent m_Opening_loseHolder [.inr (some (22 + o))]) [] n m r 0 0 Q := by
  show xk_W E m_Opening_loseHolder 0 [some (.inr (some (22 + o)))] [] n m r 0 0 Q
  have hko := xr_kd_op o ho
  refine xk_aload_n (pc := 0) d_Opening_loseHolder_0 rfl ?_
  refine xk_dup (pc := 1) d_Opening_loseHolder_1 ?_
  refine xk_getIo (pc := 2) d_Opening_loseHolder_2 fl_Opening_9 (by first | rfl | assumption) rfl (by omega) (by omega) hc ?_
  refine xk_iconst (pc := 5) (v := nI 1) d_Opening_loseHolder_5 (by decide) ?_
  first | refine xk_isubN (pc := 6) d_Opening_loseHolder_6 (by omega) ?_ | refine xk_isub (pc := 6) d_Opening_loseHolder_6 ?_
  rw [Nat.add_sub_cancel]
  refine xk_putI (pc := 7) d_Opening_loseHolder_7 fl_Opening_9 (by first | rfl | assumption) rfl (fun q hq h => by cases hq; first | exact absurd h (by decide) | exact ⟨rfl, rfl, rfl⟩) ⟨rfl, rfl⟩ (by omega) (by omega) ?_
  refine xk_aload_n (pc := 10) d_Opening_loseHolder_10 rfl ?_
  refine xk_getIo (pc := 11) d_Opening_loseHolder_11 fl_Opening_9 (by first | rfl | assumption) rfl (by omega) (by omega) xk_up_s ?_
  first | refine xk_if_neN (pc := 14) (tgt := 32) d_Opening_loseHolder_14 rfl (by omega) (fun c_14 => ?_) (fun c_14 => ?_) | refine xk_if_ne (pc := 14) (tgt := 32) d_Opening_loseHolder_14 rfl (fun c_14 => ?_) (fun c_14 => ?_)
  · refine xk_vret (pc := 32) rfl d_Opening_loseHolder_32 rfl (Nat.le_of_ble_eq_true rfl) (Nat.le_of_ble_eq_true rfl) ?_
    first | exact h0 (Or.inl c_14) | exact h0 (Or.inr c_21) | exact h1 _ c_14 c_21 e | exact h2 _ c_14 c_21 e
  · refine xk_aload_n (pc := 17) d_Opening_loseHolder_17 rfl ?_
    refine xk_getR (pc := 18) d_Opening_loseHolder_18 fl_Opening_24 (by first | rfl | assumption) rfl (by omega) (by omega) ?_
    refine xk_ifnull (pc := 21) (tgt := 32) d_Opening_loseHolder_21 rfl (fun c_21 => ?_) (fun a_21 c_21 => ?_)
    · refine xk_vret (pc := 32) rfl d_Opening_loseHolder_32 rfl (Nat.le_of_ble_eq_true rfl) (Nat.le_of_ble_eq_true rfl) ?_
      first | exact h0 (Or.inl c_14) | exact h0 (Or.inr c_21) | exact h1 _ c_14 c_21 e | exact h2 _ c_14 c_21 e
    · refine xk_aload_n (pc := 24) d_Opening_loseHolder_24 rfl ?_
      refine xk_aload_n (pc := 25) d_Opening_loseHolder_25 rfl ?_
      refine xk_getRo (pc := 26) d_Opening_loseHolder_26 fl_Opening_24 (by first | rfl | assumption) rfl (by omega) (by omega) c_21 ?_
      refine xk_cV1 (pc := 29) d_Opening_loseHolder_29 ml_Opening_28 cz_Opening_leavePipe ⟨rfl, rfl⟩ rfl (by first | rfl | assumption) (by omega) (by omega) (Nat.le_of_ble_eq_true rfl) ⟨(Nat.le_of_ble_eq_true rfl), (Nat.le_of_ble_eq_true rfl)⟩ ?_
      obtain ⟨g1, g2, g3⟩ := hA a_21 c_21 c_14
      refine c_Opening_leavePipe hn hS ho (x := x) (by rw [xk_up_k (by decide)]; exact hx) g1 g2 g3 (fun e => ?_) (fun e => ?_)
      · refine xk_vret (pc := 32) rfl d_Opening_loseHolder_32 rfl (Nat.le_of_ble_eq_true rfl) (Nat.le_of_ble_eq_true rfl) ?_
        first | exact h0 (Or.inl c_14) | exact h0 (Or.inr c_21) | exact h1 _ c_14 c_21 e | exact h2 _ c_14 c_21 e
      · refine xk_vret (pc := 32) rfl d_Opening_loseHolder_32 rfl (Nat.le_of_ble_eq_true rfl) (Nat.le_of_ble_eq_true rfl) ?_
        first | exact h0 (Or.inl c_14) | exact h0 (Or.inr c_21) | exact h1 _ c_14 c_21 e | exact h2 _ c_14 c_21 e

set_option maxRecDepth 20000 in
set_option maxHeartbeats 4000000 in
theorem c_Pipe_takeCell {E : xk_E} {n : Nat} {m : xk_M} {r : xk_P} {Q : xk_Q} (hn : 74 ≤ n) (hS : xr_S r n) {A old len : Nat} {w : Bool} (hA : 74 ≤ A) (hA2 : A % 2 = 0) (hAn : A + 1 < n) (h1 : m A 1 = nI old) (ho4 : old < 4) (h2 : m A 2 = nI len) (hl4 : len ≤ 4) (h4 : m A 4 = xs_bi w) (e0 : len = 0 → Q (some (.inl (if w = true then -6 else -7))) n m r) (e1 : len ≠ 0 → Q (some (.inl (m (A + 1) old))) n (xk_up (xk_up m A 1 (nI ((old + 1) % 4))) A 2 (nI (len - 1))) r) : xk_W E m_Pipe_takeCell 0 (xk_ent m_Pipe_takeCell [.inr (some A)]) [] n m r 0 0 Q := by
  show xk_W E m_Pipe_takeCell 0 [some (.inr (some A)), none] [] n m r 0 0 Q
  have hkA := xr_kd_pi hA hA2
  have hkC := xr_kd_pc (a := A + 1) (by omega) (by omega)
  refine xk_aload_n (pc := 0) d_Pipe_takeCell_0 rfl ?_
  refine xk_getIo (pc := 1) d_Pipe_takeCell_1 fl_Pipe_19 (by first | rfl | assumption) rfl (by omega) (by omega) h2 ?_
  first | refine xk_if_neN (pc := 4) (tgt := 22) d_Pipe_takeCell_4 rfl (by omega) (fun c_4 => ?_) (fun c_4 => ?_) | refine xk_if_ne (pc := 4) (tgt := 22) d_Pipe_takeCell_4 rfl (fun c_4 => ?_) (fun c_4 => ?_)
  · refine xk_aload_n (pc := 22) d_Pipe_takeCell_22 rfl ?_
    refine xk_getRo (pc := 23) d_Pipe_takeCell_23 fl_Pipe_9 (by first | rfl | assumption) rfl (by omega) (by omega) (hS _ _ _ (xr_st_pi hA hA2) (by omega)) ?_
    refine xk_aload_n (pc := 26) d_Pipe_takeCell_26 rfl ?_
    refine xk_getIo (pc := 27) d_Pipe_takeCell_27 fl_Pipe_15 (by first | rfl | assumption) rfl (by omega) (by omega) h1 ?_
    refine xk_iaload (pc := 30) d_Pipe_takeCell_30 (by first | rfl | assumption) (by omega) (by omega) rfl (by omega) (by decide) ?_
    refine xk_istore_n (pc := 31) d_Pipe_takeCell_31 (by decide) ?_
    refine xk_aload_n (pc := 32) d_Pipe_takeCell_32 rfl ?_
    refine xk_aload_n (pc := 33) d_Pipe_takeCell_33 rfl ?_
    refine xk_getIo (pc := 34) d_Pipe_takeCell_34 fl_Pipe_15 (by first | rfl | assumption) rfl (by omega) (by omega) h1 ?_
    refine xk_iconst (pc := 37) (v := nI 1) d_Pipe_takeCell_37 (by decide) ?_
    first | refine xk_iaddN (pc := 38) d_Pipe_takeCell_38 ?_ | refine xk_iadd (pc := 38) d_Pipe_takeCell_38 ?_
    refine xk_iconst (pc := 39) (v := nI 4) d_Pipe_takeCell_39 (by decide) ?_
    refine xk_iremN (pc := 40) d_Pipe_takeCell_40 (by decide) (by omega) (by decide) ?_
    refine xk_putI (pc := 41) d_Pipe_takeCell_41 fl_Pipe_15 (by first | rfl | assumption) rfl (fun q hq h => by cases hq; first | exact absurd h (by decide) | exact ⟨rfl, rfl, rfl⟩) ⟨rfl, rfl⟩ (by omega) (by omega) ?_
    refine xk_aload_n (pc := 44) d_Pipe_takeCell_44 rfl ?_
    refine xk_dup (pc := 45) d_Pipe_takeCell_45 ?_
    refine xk_getIo (pc := 46) d_Pipe_takeCell_46 fl_Pipe_19 (by first | rfl | assumption) rfl (by omega) (by omega) ((xk_up_k (by decide)).trans h2) ?_
    refine xk_iconst (pc := 49) (v := nI 1) d_Pipe_takeCell_49 (by decide) ?_
    first | refine xk_isubN (pc := 50) d_Pipe_takeCell_50 (by omega) ?_ | refine xk_isub (pc := 50) d_Pipe_takeCell_50 ?_
    refine xk_putI (pc := 51) d_Pipe_takeCell_51 fl_Pipe_19 (by first | rfl | assumption) rfl (fun q hq h => by cases hq; first | exact absurd h (by decide) | exact ⟨rfl, rfl, rfl⟩) ⟨rfl, rfl⟩ (by omega) (by omega) ?_
    refine xk_iload_n (pc := 54) d_Pipe_takeCell_54 rfl ?_
    refine xk_iret (pc := 55) rfl d_Pipe_takeCell_55 rfl (Nat.le_of_ble_eq_true rfl) (Nat.le_of_ble_eq_true rfl) ?_
    exact e1 c_4
  · refine xk_aload_n (pc := 7) d_Pipe_takeCell_7 rfl ?_
    refine xk_getIo (pc := 8) d_Pipe_takeCell_8 fl_Pipe_26 (by first | rfl | assumption) rfl (by omega) (by omega) h4 ?_
    first | refine xk_if_eqN (pc := 11) (tgt := 19) d_Pipe_takeCell_11 rfl (by omega) (fun c_11 => ?_) (fun c_11 => ?_) | refine xk_if_eq (pc := 11) (tgt := 19) d_Pipe_takeCell_11 rfl (fun c_11 => ?_) (fun c_11 => ?_)
    · rw [xs_bi_z] at c_11
      subst c_11
      refine xk_bipush (pc := 19) (v := (-7)) d_Pipe_takeCell_19 (by decide) ?_
      refine xk_iret (pc := 21) rfl d_Pipe_takeCell_21 rfl (Nat.le_of_ble_eq_true rfl) (Nat.le_of_ble_eq_true rfl) ?_
      exact e0 c_4
    · have c_12 := xs_bi_nz c_11
      subst c_12
      refine xk_bipush (pc := 14) (v := (-6)) d_Pipe_takeCell_14 (by decide) ?_
      refine xk_goto (pc := 16) (tgt := 21) d_Pipe_takeCell_16 rfl ?_
      refine xk_iret (pc := 21) rfl d_Pipe_takeCell_21 rfl (Nat.le_of_ble_eq_true rfl) (Nat.le_of_ble_eq_true rfl) ?_
      exact e0 c_4

set_option maxRecDepth 20000 in
set_option maxHeartbeats 4000000 in
theorem c_Pipe_addCell {E : xk_E} {n : Nat} {m : xk_M} {r : xk_P} {Q : xk_Q} (hn : 74 ≤ n) (hS : xr_S r n) {A old len : Nat} {w : Bool} {v : Int32} (hA : 74 ≤ A) (hA2 : A % 2 = 0) (hAn : A + 1 < n) (h1 : m A 1 = nI old) (ho4 : old < 4) (h2 : m A 2 = nI len) (hl4 : len ≤ 4) (h3 : m A 3 = xs_bi w) (e0 : w = false → Q (some (.inl (-7))) n m r) (e4 : w = true → len = 4 → Q (some (.inl (-6))) n m r) (e1 : w = true → len ≠ 4 → Q (some (.inl (nI 1))) n (xk_up (xk_up m (A + 1) ((old + len) % 4) v) A 2 (nI (len + 1))) r) : xk_W E m_Pipe_addCell 0 (xk_ent m_Pipe_addCell [.inr (some A), .inl v]) [] n m r 0 0 Q := by
  show xk_W E m_Pipe_addCell 0 [some (.inr (some A)), some (.inl v)] [] n m r 0 0 Q
  have hkA := xr_kd_pi hA hA2
  have hkC := xr_kd_pc (a := A + 1) (by omega) (by omega)
  refine xk_aload_n (pc := 0) d_Pipe_addCell_0 rfl ?_
  refine xk_getIo (pc := 1) d_Pipe_addCell_1 fl_Pipe_22 (by first | rfl | assumption) rfl (by omega) (by omega) h3 ?_
  first | refine xk_if_neN (pc := 4) (tgt := 10) d_Pipe_addCell_4 rfl (by omega) (fun c_4 => ?_) (fun c_4 => ?_) | refine xk_if_ne (pc := 4) (tgt := 10) d_Pipe_addCell_4 rfl (fun c_4 => ?_) (fun c_4 => ?_)
  · have c_5 := xs_bi_nz c_4
    refine xk_aload_n (pc := 10) d_Pipe_addCell_10 rfl ?_
    refine xk_getIo (pc := 11) d_Pipe_addCell_11 fl_Pipe_19 (by first | rfl | assumption) rfl (by omega) (by omega) h2 ?_
    refine xk_iconst (pc := 14) (v := nI 4) d_Pipe_addCell_14 (by decide) ?_
    first | refine xk_icmp_neN (pc := 15) (tgt := 21) d_Pipe_addCell_15 rfl (by omega) (by omega) (fun c_15 => ?_) (fun c_15 => ?_) | refine xk_icmp_ne (pc := 15) (tgt := 21) d_Pipe_addCell_15 rfl (fun c_15 => ?_) (fun c_15 => ?_)
    · refine xk_aload_n (pc := 21) d_Pipe_addCell_21 rfl ?_
      refine xk_getRo (pc := 22) d_Pipe_addCell_22 fl_Pipe_9 (by first | rfl | assumption) rfl (by omega) (by omega) (hS _ _ _ (xr_st_pi hA hA2) (by omega)) ?_
      refine xk_aload_n (pc := 25) d_Pipe_addCell_25 rfl ?_
      refine xk_getIo (pc := 26) d_Pipe_addCell_26 fl_Pipe_15 (by first | rfl | assumption) rfl (by omega) (by omega) h1 ?_
      refine xk_aload_n (pc := 29) d_Pipe_addCell_29 rfl ?_
      refine xk_getIo (pc := 30) d_Pipe_addCell_30 fl_Pipe_19 (by first | rfl | assumption) rfl (by omega) (by omega) h2 ?_
      first | refine xk_iaddN (pc := 33) d_Pipe_addCell_33 ?_ | refine xk_iadd (pc := 33) d_Pipe_addCell_33 ?_
      refine xk_iconst (pc := 34) (v := nI 4) d_Pipe_addCell_34 (by decide) ?_
      refine xk_iremN (pc := 35) d_Pipe_addCell_35 (by decide) (by omega) (by decide) ?_
      refine xk_iload_n (pc := 36) d_Pipe_addCell_36 rfl ?_
      refine xk_iastore (pc := 37) d_Pipe_addCell_37 (by first | rfl | assumption) (by omega) (by omega) rfl (Nat.mod_lt _ (by decide)) (by decide) ?_
      refine xk_aload_n (pc := 38) d_Pipe_addCell_38 rfl ?_
      refine xk_dup (pc := 39) d_Pipe_addCell_39 ?_
      refine xk_getIo (pc := 40) d_Pipe_addCell_40 fl_Pipe_19 (by first | rfl | assumption) rfl (by omega) (by omega) ((xk_up_a (by omega)).trans h2) ?_
      refine xk_iconst (pc := 43) (v := nI 1) d_Pipe_addCell_43 (by decide) ?_
      first | refine xk_iaddN (pc := 44) d_Pipe_addCell_44 ?_ | refine xk_iadd (pc := 44) d_Pipe_addCell_44 ?_
      refine xk_putI (pc := 45) d_Pipe_addCell_45 fl_Pipe_19 (by first | rfl | assumption) rfl (fun q hq h => by cases hq; first | exact absurd h (by decide) | exact ⟨rfl, rfl, rfl⟩) ⟨rfl, rfl⟩ (by omega) (by omega) ?_
      refine xk_iconst (pc := 48) (v := nI 1) d_Pipe_addCell_48 (by decide) ?_
      refine xk_iret (pc := 49) rfl d_Pipe_addCell_49 rfl (Nat.le_of_ble_eq_true rfl) (Nat.le_of_ble_eq_true rfl) ?_
      exact e1 c_5 c_15
    · refine xk_bipush (pc := 18) (v := (-6)) d_Pipe_addCell_18 (by decide) ?_
      refine xk_iret (pc := 20) rfl d_Pipe_addCell_20 rfl (Nat.le_of_ble_eq_true rfl) (Nat.le_of_ble_eq_true rfl) ?_
      exact e4 c_5 c_15
  · rw [xs_bi_z] at c_4
    refine xk_bipush (pc := 7) (v := (-7)) d_Pipe_addCell_7 (by decide) ?_
    refine xk_iret (pc := 9) rfl d_Pipe_addCell_9 rfl (Nat.le_of_ble_eq_true rfl) (Nat.le_of_ble_eq_true rfl) ?_
    exact e0 c_4
end
section
set_option maxRecDepth 20000 in
set_option maxHeartbeats 4000000 in
theorem c_Task_begin {E : xk_E} {n : Nat} {m : xk_M} {r : xk_P} {Q : xk_Q} (hn : 74 ≤ n) (hS : xr_S r n) {p : Nat} (hp : p < 7) {x : Int32} (hQ : Q none n (xk_up (xk_up m (39 + 2 * p) 0 (nI 1)) (39 + 2 * p) 1 x) r) : xk_W E m_Task_begin 0 (xk_ent m_Task_begin [.inr (some (39 + 2 * p)), .inl x]) [] n m r 0 0 Q := by
  show xk_W E m_Task_begin 0 [some (.inr (some (39 + 2 * p))), some (.inl x)] [] n m r 0 0 Q
  have hkt := xr_kd_ta p hp
  have hkd := xr_kd_de p hp
  refine xk_aload_n (pc := 0) d_Task_begin_0 rfl ?_
  refine xk_iconst (pc := 1) (v := nI 1) d_Task_begin_1 (by decide) ?_
  refine xk_putI (pc := 2) d_Task_begin_2 fl_Task_11 (by first | rfl | assumption) rfl (fun q hq h => by cases hq; first | exact absurd h (by decide) | exact ⟨rfl, rfl, rfl⟩) ⟨rfl, rfl⟩ (by omega) (by omega) ?_
  refine xk_aload_n (pc := 5) d_Task_begin_5 rfl ?_
  refine xk_iload_n (pc := 6) d_Task_begin_6 rfl ?_
  refine xk_putI (pc := 7) d_Task_begin_7 fl_Task_15 (by first | rfl | assumption) rfl (fun q hq h => by cases hq; first | exact absurd h (by decide) | exact ⟨rfl, rfl, rfl⟩) ⟨rfl, rfl⟩ (by omega) (by omega) ?_
  refine xk_vret (pc := 10) rfl d_Task_begin_10 rfl (Nat.le_of_ble_eq_true rfl) (Nat.le_of_ble_eq_true rfl) ?_
  exact hQ

set_option maxRecDepth 20000 in
set_option maxHeartbeats 4000000 in
theorem c_Task_isChildOf {E : xk_E} {n : Nat} {m : xk_M} {r : xk_P} {Q : xk_Q} (hn : 74 ≤ n) (hS : xr_S r n) {p : Nat} (hp : p < 7) {st : Nat} {x y : Int32} (h0 : m (39 + 2 * p) 0 = nI st) (hst : st < 2 ^ 30) (h1 : m (39 + 2 * p) 1 = x) (e1 : st ≠ 0 → x = y → Q (some (.inl (nI 1))) n m r) (e0 : (st = 0 ∨ ¬ x = y) → Q (some (.inl (nI 0))) n m r) : xk_W E m_Task_isChildOf 0 (xk_ent m_Task_isChildOf [.inr (some (39 + 2 * p)), .inl y]) [] n m r 0 0 Q := by
  show xk_W E m_Task_isChildOf 0 [some (.inr (some (39 + 2 * p))), some (.inl y)] [] n m r 0 0 Q
  have hkt := xr_kd_ta p hp
  have hkd := xr_kd_de p hp
  refine xk_aload_n (pc := 0) d_Task_isChildOf_0 rfl ?_
  refine xk_getIo (pc := 1) d_Task_isChildOf_1 fl_Task_11 (by first | rfl | assumption) rfl (by omega) (by omega) h0 ?_
  first | refine xk_if_eqN (pc := 4) (tgt := 19) d_Task_isChildOf_4 rfl (by omega) (fun c_4 => ?_) (fun c_4 => ?_) | refine xk_if_eq (pc := 4) (tgt := 19) d_Task_isChildOf_4 rfl (fun c_4 => ?_) (fun c_4 => ?_)
  · refine xk_iconst (pc := 19) (v := nI 0) d_Task_isChildOf_19 (by decide) ?_
    refine xk_zret (pc := 20) rfl d_Task_isChildOf_20 rfl rfl (Nat.le_of_ble_eq_true rfl) (Nat.le_of_ble_eq_true rfl) ?_
    first | exact e0 (Or.inl c_4) | exact e0 (Or.inr c_12)
  · refine xk_aload_n (pc := 7) d_Task_isChildOf_7 rfl ?_
    refine xk_getIo (pc := 8) d_Task_isChildOf_8 fl_Task_15 (by first | rfl | assumption) rfl (by omega) (by omega) h1 ?_
    refine xk_iload_n (pc := 11) d_Task_isChildOf_11 rfl ?_
    first | refine xk_icmp_neN (pc := 12) (tgt := 19) d_Task_isChildOf_12 rfl (by omega) (by omega) (fun c_12 => ?_) (fun c_12 => ?_) | refine xk_icmp_ne (pc := 12) (tgt := 19) d_Task_isChildOf_12 rfl (fun c_12 => ?_) (fun c_12 => ?_)
    · refine xk_iconst (pc := 19) (v := nI 0) d_Task_isChildOf_19 (by decide) ?_
      refine xk_zret (pc := 20) rfl d_Task_isChildOf_20 rfl rfl (Nat.le_of_ble_eq_true rfl) (Nat.le_of_ble_eq_true rfl) ?_
      first | exact e0 (Or.inl c_4) | exact e0 (Or.inr c_12)
    · refine xk_iconst (pc := 15) (v := nI 1) d_Task_isChildOf_15 (by decide) ?_
      refine xk_goto (pc := 16) (tgt := 20) d_Task_isChildOf_16 rfl ?_
      refine xk_zret (pc := 20) rfl d_Task_isChildOf_20 rfl rfl (Nat.le_of_ble_eq_true rfl) (Nat.le_of_ble_eq_true rfl) ?_
      exact e1 c_4 c_12

set_option maxRecDepth 20000 in
set_option maxHeartbeats 4000000 in
theorem c_Task_hold {E : xk_E} {n : Nat} {m : xk_M} {r : xk_P} {Q : xk_Q} (hn : 74 ≤ n) (hS : xr_S r n) {p : Nat} (hp : p < 7) {d o : Nat} (hd : d < 6) (ho : o < 16) {c : Nat} (hc : m (22 + o) 0 = nI c) (hQ : Q none n (xk_up m (22 + o) 0 (nI (c + 1))) (xk_up r (40 + 2 * p) d (some (22 + o)))) : xk_W E m_Task_hold 0 (xk_ent m_Task_hold [.inr (some (39 + 2 * p)), .inl (nI d), .inr (some (22 + o))]) [] n m r 0 0 Q := by
  show xk_W E m_Task_hold 0 [some (.inr (some (39 + 2 * p))), some (.inl (nI d)), some (.inr (some (22 + o)))] [] n m r 0 0 Q
  have hkt := xr_kd_ta p hp
  have hkd := xr_kd_de p hp
  have hko := xr_kd_op o ho
  refine xk_aload_n (pc := 0) d_Task_hold_0 rfl ?_
  refine xk_getRo (pc := 1) d_Task_hold_1 fl_Task_23 (by first | rfl | assumption) rfl (by omega) (by omega) (hS _ _ _ (xr_st_ta _ hp) (by omega)) ?_
  refine xk_iload_n (pc := 4) d_Task_hold_4 rfl ?_
  refine xk_aload_n (pc := 5) d_Task_hold_5 rfl ?_
  refine xk_aastore (pc := 6) (ci := 3) d_Task_hold_6 hkd (by decide) (by decide) (by omega) (by omega) rfl (by omega) (by decide) hko rfl rfl (by omega) (by omega) ?_
  refine xk_aload_n (pc := 7) d_Task_hold_7 rfl ?_
  refine xk_dup (pc := 8) d_Task_hold_8 ?_
  refine xk_getIo (pc := 9) d_Task_hold_9 fl_Task_30 (by first | rfl | assumption) rfl (by omega) (by omega) hc ?_
  refine xk_iconst (pc := 12) (v := nI 1) d_Task_hold_12 (by decide) ?_
  first | refine xk_iaddN (pc := 13) d_Task_hold_13 ?_ | refine xk_iadd (pc := 13) d_Task_hold_13 ?_
  refine xk_putI (pc := 14) d_Task_hold_14 fl_Task_30 (by first | rfl | assumption) rfl (fun q hq h => by cases hq; first | exact absurd h (by decide) | exact ⟨rfl, rfl, rfl⟩) ⟨rfl, rfl⟩ (by omega) (by omega) ?_
  refine xk_vret (pc := 17) rfl d_Task_hold_17 rfl (Nat.le_of_ble_eq_true rfl) (Nat.le_of_ble_eq_true rfl) ?_
  exact hQ

set_option maxRecDepth 20000 in
set_option maxHeartbeats 4000000 in
theorem l_freeFrom {E : xk_E} {n : Nat} {Q : xk_Q} {m : xk_M} {r : xk_P} {O : xs_O} {p d0 : Nat} {v1 : Option xk_V} (hn : 74 ≤ n) (hS : xr_S r n) (hp : p < 7) (hd0 : d0 ≤ 6) (hD : ∀ d, d < 6 → r (40 + 2 * p) d = (O.1 (6 * p + d)).map (fun o => 22 + o)) (h1 : ∀ d, xs_free O p d0 = some d → d < 6 → Q (some (.inl (nI d))) n m r) (h0 : xs_free O p d0 = none → Q (some (.inl (-1))) n m r) : ∀ (k : Nat) (i : Nat), 6 - i < k → d0 ≤ i → i ≤ 6 → (∀ j, d0 ≤ j → j < i → O.1 (6 * p + j) ≠ none) → xk_W E m_Task_freeFrom 2 [some (.inr (some (39 + 2 * p))), v1, some (.inl (nI i))] [] n m r 0 0 Q := by
  intro k
  induction k with
  | zero => intro i h; exact absurd h (Nat.not_lt_zero _)
  | succ k ih =>
    intro i hk hi1 hi2 hj
    have hkt := xr_kd_ta p hp
    have hkd := xr_kd_de p hp
    refine xk_iload_n (pc := 2) d_Task_freeFrom_2 rfl ?_
    refine xk_bipush (pc := 3) (v := nI 6) d_Task_freeFrom_3 (by decide) ?_
    first | refine xk_icmp_geN (pc := 5) (tgt := 25) d_Task_freeFrom_5 rfl (by omega) (by omega) (fun c_5 => ?_) (fun c_5 => ?_) | refine xk_icmp_ge (pc := 5) (tgt := 25) d_Task_freeFrom_5 rfl (fun c_5 => ?_) (fun c_5 => ?_)
    · refine xk_iconst (pc := 25) (v := (-1)) d_Task_freeFrom_25 (by decide) ?_
      refine xk_iret (pc := 26) rfl d_Task_freeFrom_26 rfl (Nat.le_of_ble_eq_true rfl) (Nat.le_of_ble_eq_true rfl) ?_
      exact h0 (xs_least_n (fun j a b => decide_eq_false (hj j a (by omega))))
    · refine xk_aload_n (pc := 8) d_Task_freeFrom_8 rfl ?_
      refine xk_getRo (pc := 9) d_Task_freeFrom_9 fl_Task_23 (by first | rfl | assumption) rfl (by omega) (by omega) (hS _ _ _ (xr_st_ta _ hp) (by omega)) ?_
      refine xk_iload_n (pc := 12) d_Task_freeFrom_12 rfl ?_
      refine xk_aaloado (pc := 13) d_Task_freeFrom_13 (by first | rfl | assumption) (by decide) (by decide) (by omega) (by omega) rfl (by omega) (by decide) (hD i c_5) ?_
      refine xk_ifnonnull (pc := 14) (tgt := 19) d_Task_freeFrom_14 rfl (fun a_14 c_14 => ?_) (fun c_14 => ?_)
      · refine xk_iincN (pc := 19) (d := 1) d_Task_freeFrom_19 rfl ?_
        refine xk_goto (pc := 22) (tgt := 2) d_Task_freeFrom_22 rfl ?_
        exact ih (i + 1) (by omega) (by omega) (by omega) (fun j a b => by
          by_cases e : j = i
          · subst e
            intro hq
            rw [hq] at c_14
            cases c_14
          · exact hj j a (by omega))
      · refine xk_iload_n (pc := 17) d_Task_freeFrom_17 rfl ?_
        refine xk_iret (pc := 18) rfl d_Task_freeFrom_18 rfl (Nat.le_of_ble_eq_true rfl) (Nat.le_of_ble_eq_true rfl) ?_
        have e : O.1 (6 * p + i) = none := by
          cases hq : O.1 (6 * p + i) with
          | none => rfl
          | some o => rw [hq] at c_14; cases c_14
        exact h1 i (xs_least_s hi1 (by omega) (decide_eq_true e) (fun j a b => decide_eq_false (hj j a b))) c_5

set_option maxRecDepth 20000 in
set_option maxHeartbeats 4000000 in
theorem c_Task_freeFrom {E : xk_E} {n : Nat} {m : xk_M} {r : xk_P} {Q : xk_Q} (hn : 74 ≤ n) (hS : xr_S r n) {p : Nat} (hp : p < 7) {O : xs_O} {d0 : Nat} (hd0 : d0 ≤ 6) (hD : ∀ d, d < 6 → r (40 + 2 * p) d = (O.1 (6 * p + d)).map (fun o => 22 + o)) (h1 : ∀ d, xs_free O p d0 = some d → d < 6 → Q (some (.inl (nI d))) n m r) (h0 : xs_free O p d0 = none → Q (some (.inl (-1))) n m r) : xk_W E m_Task_freeFrom 0 (xk_ent m_Task_freeFrom [.inr (some (39 + 2 * p)), .inl (nI d0)]) [] n m r 0 0 Q := by
  show xk_W E m_Task_freeFrom 0 [some (.inr (some (39 + 2 * p))), some (.inl (nI d0)), none] [] n m r 0 0 Q
  refine xk_iload_n (pc := 0) d_Task_freeFrom_0 rfl ?_
  refine xk_istore_n (pc := 1) d_Task_freeFrom_1 (by decide) ?_
  exact l_freeFrom hn hS hp hd0 hD h1 h0 7 d0 (by omega) (Nat.le_refl _) hd0 (fun j a b => by omega)

theorem xs_alive_n {T : xs_T} {x : Int32} (h : xs_nat x 7 = none) : xs_alive T x = none := by
  unfold xs_alive
  rw [h]
theorem xs_alive_f {T : xs_T} {x : Int32} {p : Nat} (h : xs_nat x 7 = some p) (h2 : ¬ T.1 p = 1) : xs_alive T x = none := by
  unfold xs_alive
  rw [h]
  exact if_neg h2

set_option maxRecDepth 20000 in
set_option maxHeartbeats 4000000 in
theorem c_K_isAlive {E : xk_E} {n : Nat} {m : xk_M} {r : xk_P} {Q : xk_Q} (hn : 74 ≤ n) (hS : xr_S r n) {T : xs_T} (hT : xr_T T m) (hok : xs_okT T) {x : Int32} (h1 : ∀ p, xs_alive T x = some p → p < 7 → 1 ≤ p → x = nI p → T.1 p = 1 → Q (some (.inl (nI 1))) n m r) (h0 : xs_alive T x = none → Q (some (.inl (nI 0))) n m r) : xk_W E m_K_isAlive 0 (xk_ent m_K_isAlive [.inr (some 1), .inl x]) [] n m r 0 0 Q := by
  show xk_W E m_K_isAlive 0 [some (.inr (some 1)), some (.inl x)] [] n m r 0 0 Q
  refine xk_iload_n (pc := 0) d_K_isAlive_0 rfl ?_
  refine xk_bipush (pc := 1) (v := nI 7) d_K_isAlive_1 (by decide) ?_
  refine xk_cS2 (pc := 3) d_K_isAlive_3 ml_K_53 cz_K_isBelow ⟨rfl, rfl⟩ rfl (Nat.le_of_ble_eq_true rfl) ⟨(Nat.le_of_ble_eq_true rfl), (Nat.le_of_ble_eq_true rfl)⟩ ?_
  refine c_K_isBelow (by decide) (fun f hf ef en => ?_) (fun en => ?_)
  · subst ef
    have hkt := xr_kd_ta f hf
    have hle := hok.2.2.1 f hf
    refine xk_if_eq (pc := 6) (tgt := 26) d_K_isAlive_6 rfl (fun h => absurd h (by decide)) (fun _ => ?_)
    refine xk_aload_n (pc := 9) d_K_isAlive_9 rfl ?_
    refine xk_getRo (pc := 10) d_K_isAlive_10 fl_K_44 (by first | rfl | assumption) rfl (by omega) (by omega) (hS _ _ _ rfl (by omega)) ?_
    refine xk_iload_n (pc := 13) d_K_isAlive_13 rfl ?_
    refine xk_aaloado (pc := 14) d_K_isAlive_14 (by first | rfl | assumption) (by decide) (by decide) (by omega) (by omega) rfl (by omega) (by decide) (hS _ _ _ (xr_st_ts _ hf) (by omega)) ?_
    refine xk_getIo (pc := 15) d_K_isAlive_15 fl_K_173 (by first | rfl | assumption) rfl (by omega) (by omega) (hT.1 f hf) ?_
    refine xk_iconst (pc := 18) (v := nI 1) d_K_isAlive_18 (by decide) ?_
    first | refine xk_icmp_neN (pc := 19) (tgt := 26) d_K_isAlive_19 rfl (by omega) (by omega) (fun c_19 => ?_) (fun c_19 => ?_) | refine xk_icmp_ne (pc := 19) (tgt := 26) d_K_isAlive_19 rfl (fun c_19 => ?_) (fun c_19 => ?_)
    · refine xk_iconst (pc := 26) (v := nI 0) d_K_isAlive_26 (by decide) ?_
      refine xk_zret (pc := 27) rfl d_K_isAlive_27 rfl rfl (Nat.le_of_ble_eq_true rfl) (Nat.le_of_ble_eq_true rfl) ?_
      first
        | exact h0 (xs_alive_n en)
        | exact h0 (xs_alive_f en c_19)
    · refine xk_iconst (pc := 22) (v := nI 1) d_K_isAlive_22 (by decide) ?_
      refine xk_goto (pc := 23) (tgt := 27) d_K_isAlive_23 rfl ?_
      refine xk_zret (pc := 27) rfl d_K_isAlive_27 rfl rfl (Nat.le_of_ble_eq_true rfl) (Nat.le_of_ble_eq_true rfl) ?_
      have e : xs_alive T (nI f) = some f := by unfold xs_alive; rw [en]; exact if_pos c_19
      exact h1 f e hf (by
        rcases Nat.eq_zero_or_pos f with q | q
        · subst q; rw [hok.1] at c_19; cases c_19
        · exact q) rfl c_19
  · refine xk_if_eq (pc := 6) (tgt := 26) d_K_isAlive_6 rfl (fun _ => ?_) (fun h => absurd (by decide) h)
    refine xk_iconst (pc := 26) (v := nI 0) d_K_isAlive_26 (by decide) ?_
    refine xk_zret (pc := 27) rfl d_K_isAlive_27 rfl rfl (Nat.le_of_ble_eq_true rfl) (Nat.le_of_ble_eq_true rfl) ?_
    first
      | exact h0 (xs_alive_n en)
      | exact h0 (xs_alive_f en c_19)

set_option maxRecDepth 20000 in
set_option maxHeartbeats 4000000 in
theorem c_K_openingOf {E : xk_E} {n : Nat} {m : xk_M} {r : xk_P} {Q : xk_Q} (hn : 74 ≤ n) (hS : xr_S r n) {T : xs_T} {O : xs_O} (hT : xr_T T m) (hok : xs_okT T) (hD : ∀ p d, p < 7 → d < 6 → r (40 + 2 * p) d = (O.1 (6 * p + d)).map (fun o => 22 + o)) {x y : Int32} (h1 : ∀ p d o, xs_alive T x = some p → xs_nat y 6 = some d → x = nI p → y = nI d → p < 7 → 1 ≤ p → d < 6 → T.1 p = 1 → O.1 (6 * p + d) = some o → Q (some (.inr (some (22 + o)))) n m r) (h0 : (xs_alive T x = none ∨ xs_nat y 6 = none ∨ ∃ p d, xs_alive T x = some p ∧ xs_nat y 6 = some d ∧ O.1 (6 * p + d) = none) → Q (some (.inr none)) n m r) : xk_W E m_K_openingOf 0 (xk_ent m_K_openingOf [.inr (some 1), .inl x, .inl y]) [] n m r 0 0 Q := by
  show xk_W E m_K_openingOf 0 [some (.inr (some 1)), some (.inl x), some (.inl y)] [] n m r 0 0 Q
  refine xk_aload_n (pc := 0) d_K_openingOf_0 rfl ?_
  refine xk_iload_n (pc := 1) d_K_openingOf_1 rfl ?_
  refine xk_cV1 (pc := 2) d_K_openingOf_2 ml_K_75 cz_K_isAlive ⟨rfl, rfl⟩ rfl (by first | rfl | assumption) (by omega) (by omega) (Nat.le_of_ble_eq_true rfl) ⟨(Nat.le_of_ble_eq_true rfl), (Nat.le_of_ble_eq_true rfl)⟩ ?_
  refine c_K_isAlive hn hS hT hok (fun p ep hp hp1 ex et => ?_) (fun ep => ?_)
  · subst ex
    have hkt := xr_kd_ta p hp
    have hkd := xr_kd_de p hp
    refine xk_if_eq (pc := 5) (tgt := 17) d_K_openingOf_5 rfl (fun h => absurd h (by decide)) (fun _ => ?_)
    refine xk_iload_n (pc := 8) d_K_openingOf_8 rfl ?_
    refine xk_bipush (pc := 9) (v := nI 6) d_K_openingOf_9 (by decide) ?_
    refine xk_cS2 (pc := 11) d_K_openingOf_11 ml_K_53 cz_K_isBelow ⟨rfl, rfl⟩ rfl (Nat.le_of_ble_eq_true rfl) ⟨(Nat.le_of_ble_eq_true rfl), (Nat.le_of_ble_eq_true rfl)⟩ ?_
    refine c_K_isBelow (by decide) (fun d hd ed en => ?_) (fun en => ?_)
    · subst ed
      refine xk_if_ne (pc := 14) (tgt := 19) d_K_openingOf_14 rfl (fun _ => ?_) (fun h => absurd h (by decide))
      refine xk_aload_n (pc := 19) d_K_openingOf_19 rfl ?_
      refine xk_getRo (pc := 20) d_K_openingOf_20 fl_K_44 (by first | rfl | assumption) rfl (by omega) (by omega) (hS _ _ _ rfl (by omega)) ?_
      refine xk_iload_n (pc := 23) d_K_openingOf_23 rfl ?_
      refine xk_aaloado (pc := 24) d_K_openingOf_24 (by first | rfl | assumption) (by decide) (by decide) (by omega) (by omega) rfl (by omega) (by decide) (hS _ _ _ (xr_st_ts _ hp) (by omega)) ?_
      refine xk_getRo (pc := 25) d_K_openingOf_25 fl_K_224 (by first | rfl | assumption) rfl (by omega) (by omega) (hS _ _ _ (xr_st_ta _ hp) (by omega)) ?_
      refine xk_iload_n (pc := 28) d_K_openingOf_28 rfl ?_
      refine xk_aaloado (pc := 29) d_K_openingOf_29 (by first | rfl | assumption) (by decide) (by decide) (by omega) (by omega) rfl (by omega) (by decide) (hD p d hp hd) ?_
      refine xk_aret (pc := 30) rfl d_K_openingOf_30 rfl (Nat.le_of_ble_eq_true rfl) (Nat.le_of_ble_eq_true rfl) ?_
      cases hq : O.1 (6 * p + d) with
      | none => exact h0 (Or.inr (Or.inr ⟨p, d, ep, en, hq⟩))
      | some o => exact h1 p d o ep en rfl rfl hp hp1 hd et hq
    · refine xk_if_ne (pc := 14) (tgt := 19) d_K_openingOf_14 rfl (fun h => absurd (by decide) h) (fun _ => ?_)
      refine xk_null (pc := 17) d_K_openingOf_17 ?_
      refine xk_aret (pc := 18) rfl d_K_openingOf_18 rfl (Nat.le_of_ble_eq_true rfl) (Nat.le_of_ble_eq_true rfl) ?_
      first | exact h0 (Or.inr (Or.inl en)) | exact h0 (Or.inl ep)
  · refine xk_if_eq (pc := 5) (tgt := 17) d_K_openingOf_5 rfl (fun _ => ?_) (fun h => absurd (by decide) h)
    refine xk_null (pc := 17) d_K_openingOf_17 ?_
    refine xk_aret (pc := 18) rfl d_K_openingOf_18 rfl (Nat.le_of_ble_eq_true rfl) (Nat.le_of_ble_eq_true rfl) ?_
    first | exact h0 (Or.inr (Or.inl en)) | exact h0 (Or.inl ep)

set_option maxRecDepth 20000 in
set_option maxHeartbeats 4000000 in
theorem c_K_whyNoOpening {E : xk_E} {n : Nat} {m : xk_M} {r : xk_P} {Q : xk_Q} (hn : 74 ≤ n) (hS : xr_S r n) {T : xs_T} (hT : xr_T T m) (hok : xs_okT T) {x y : Int32} (h1 : ∀ p d, xs_alive T x = some p → xs_nat y 6 = some d → Q (some (.inl (-3))) n m r) (h0 : (xs_alive T x = none ∨ xs_nat y 6 = none) → Q (some (.inl (-1))) n m r) : xk_W E m_K_whyNoOpening 0 (xk_ent m_K_whyNoOpening [.inr (some 1), .inl x, .inl y]) [] n m r 0 0 Q := by
  show xk_W E m_K_whyNoOpening 0 [some (.inr (some 1)), some (.inl x), some (.inl y)] [] n m r 0 0 Q
  refine xk_aload_n (pc := 0) d_K_whyNoOpening_0 rfl ?_
  refine xk_iload_n (pc := 1) d_K_whyNoOpening_1 rfl ?_
  refine xk_cV1 (pc := 2) d_K_whyNoOpening_2 ml_K_75 cz_K_isAlive ⟨rfl, rfl⟩ rfl (by first | rfl | assumption) (by omega) (by omega) (Nat.le_of_ble_eq_true rfl) ⟨(Nat.le_of_ble_eq_true rfl), (Nat.le_of_ble_eq_true rfl)⟩ ?_
  refine c_K_isAlive hn hS hT hok (fun p ep hp hp1 ex et => ?_) (fun ep => ?_)
  · refine xk_if_eq (pc := 5) (tgt := 22) d_K_whyNoOpening_5 rfl (fun h => absurd h (by decide)) (fun _ => ?_)
    refine xk_iload_n (pc := 8) d_K_whyNoOpening_8 rfl ?_
    refine xk_bipush (pc := 9) (v := nI 6) d_K_whyNoOpening_9 (by decide) ?_
    refine xk_cS2 (pc := 11) d_K_whyNoOpening_11 ml_K_53 cz_K_isBelow ⟨rfl, rfl⟩ rfl (Nat.le_of_ble_eq_true rfl) ⟨(Nat.le_of_ble_eq_true rfl), (Nat.le_of_ble_eq_true rfl)⟩ ?_
    refine c_K_isBelow (by decide) (fun d hd ed en => ?_) (fun en => ?_)
    · refine xk_if_eq (pc := 14) (tgt := 22) d_K_whyNoOpening_14 rfl (fun h => absurd h (by decide)) (fun _ => ?_)
      refine xk_bipush (pc := 17) (v := (-3)) d_K_whyNoOpening_17 (by decide) ?_
      refine xk_goto (pc := 19) (tgt := 23) d_K_whyNoOpening_19 rfl ?_
      refine xk_iret (pc := 23) rfl d_K_whyNoOpening_23 rfl (Nat.le_of_ble_eq_true rfl) (Nat.le_of_ble_eq_true rfl) ?_
      first | exact h1 p d ep en | exact h0 (Or.inr en) | exact h0 (Or.inl ep)
    · refine xk_if_eq (pc := 14) (tgt := 22) d_K_whyNoOpening_14 rfl (fun _ => ?_) (fun h => absurd (by decide) h)
      refine xk_iconst (pc := 22) (v := (-1)) d_K_whyNoOpening_22 (by decide) ?_
      refine xk_iret (pc := 23) rfl d_K_whyNoOpening_23 rfl (Nat.le_of_ble_eq_true rfl) (Nat.le_of_ble_eq_true rfl) ?_
      first | exact h1 p d ep en | exact h0 (Or.inr en) | exact h0 (Or.inl ep)
  · refine xk_if_eq (pc := 5) (tgt := 22) d_K_whyNoOpening_5 rfl (fun _ => ?_) (fun h => absurd (by decide) h)
    refine xk_iconst (pc := 22) (v := (-1)) d_K_whyNoOpening_22 (by decide) ?_
    refine xk_iret (pc := 23) rfl d_K_whyNoOpening_23 rfl (Nat.le_of_ble_eq_true rfl) (Nat.le_of_ble_eq_true rfl) ?_
    first | exact h1 p d ep en | exact h0 (Or.inr en) | exact h0 (Or.inl ep)

theorem xs_u_f {O : xs_O} {o : Nat} (h : xs_cnt O.1 o 42 = 0) : xs_used O o = false := by
  unfold xs_used
  exact decide_eq_false (fun q => q h)
theorem xr_of_file {O : xs_O} {m : xk_M} {r : xk_P} {n o f : Nat} (hO : xr_O O m r n) (ho : o < 16) (hf : f < 8) (hw : xs_used O o = true → O.2.1 o = 0 → O.2.2.1 o < 8) : (xs_used O o && decide (O.2.1 o = 0 ∧ O.2.2.1 o = f)) = true ↔ (xs_cnt O.1 o 42 ≠ 0 ∧ r (22 + o) 4 = none ∧ m (22 + o) 2 = nI f) := by
  obtain ⟨h1, h2, pa, h3, h4, h5⟩ := hO
  constructor
  · intro h
    rw [Bool.and_eq_true] at h
    obtain ⟨u, k⟩ := h
    have k := of_decide_eq_true k
    obtain ⟨i1, i2, i3⟩ := h3 o ho u
    obtain ⟨j1, j2, j3⟩ := i2 k.1
    exact ⟨xs_used_iff.mp u, j1, by rw [j2, k.2]⟩
  · rintro ⟨c, a, b⟩
    have u := xs_used_iff.mpr c
    obtain ⟨i1, i2, i3⟩ := h3 o ho u
    have k0 : O.2.1 o = 0 := by
      by_cases q : O.2.1 o = 0
      · exact q
      · rw [i3 q] at a; cases a
    obtain ⟨j1, j2, j3⟩ := i2 k0
    rw [j2] at b
    have := (nI_eq (by have := hw u k0; omega) (by omega)).mp b
    rw [u, decide_eq_true ⟨k0, this⟩]
    rfl

set_option maxRecDepth 20000 in
set_option maxHeartbeats 4000000 in
theorem l_isOpen {E : xk_E} {n : Nat} {Q : xk_Q} {m : xk_M} {r : xk_P} {O : xs_O} (hn : 74 ≤ n) (hS : xr_S r n) (hO : xr_O O m r n) {f : Nat} (hf : f < 8) (hw : ∀ o, o < 16 → xs_used O o = true → O.2.1 o = 0 → O.2.2.1 o < 8) (h1 : xs_openF O f = true → Q (some (.inl (nI 1))) n m r) (h0 : xs_openF O f = false → Q (some (.inl (nI 0))) n m r) : ∀ (k : Nat) (i : Nat), 16 - i < k → i ≤ 16 → (∀ j, j < i → (fun o => xs_used O o && decide (O.2.1 o = 0 ∧ O.2.2.1 o = f)) j = false) → xk_W E m_K_isOpen 2 [some (.inr (some 1)), some (.inl (nI f)), some (.inl (nI i))] [] n m r 0 0 Q := by
  intro k
  induction k with
  | zero => intro i h; exact absurd h (Nat.not_lt_zero _)
  | succ k ih =>
    intro i hk hi hj
    have hcl := xs_cnt_le (g := O.1) (o := i) 42
    refine xk_iload_n (pc := 2) d_K_isOpen_2 rfl ?_
    refine xk_bipush (pc := 3) (v := nI 16) d_K_isOpen_3 (by decide) ?_
    first | refine xk_icmp_geN (pc := 5) (tgt := 29) d_K_isOpen_5 rfl (by omega) (by omega) (fun c_5 => ?_) (fun c_5 => ?_) | refine xk_icmp_ge (pc := 5) (tgt := 29) d_K_isOpen_5 rfl (fun c_5 => ?_) (fun c_5 => ?_)
    · refine xk_iconst (pc := 29) (v := nI 0) d_K_isOpen_29 (by decide) ?_
      refine xk_zret (pc := 30) rfl d_K_isOpen_30 rfl rfl (Nat.le_of_ble_eq_true rfl) (Nat.le_of_ble_eq_true rfl) ?_
      exact h0 (by unfold xs_openF; rw [xs_least_n (fun j _ b => hj j (by omega))]; rfl)
    · have hko := xr_kd_op i c_5
      have hiff := xr_of_file hO c_5 hf (hw i c_5)
      refine xk_aload_n (pc := 8) d_K_isOpen_8 rfl ?_
      refine xk_getRo (pc := 9) d_K_isOpen_9 fl_K_37 (by first | rfl | assumption) rfl (by omega) (by omega) (hS _ _ _ rfl (by omega)) ?_
      refine xk_iload_n (pc := 12) d_K_isOpen_12 rfl ?_
      refine xk_aaloado (pc := 13) d_K_isOpen_13 (by first | rfl | assumption) (by decide) (by decide) (by omega) (by omega) rfl (by omega) (by decide) (hS _ _ _ (xr_st_op _ c_5) (by omega)) ?_
      refine xk_iload_n (pc := 14) d_K_isOpen_14 rfl ?_
      refine xk_cV1 (pc := 15) d_K_isOpen_15 ml_K_227 cz_Opening_isOfFile ⟨rfl, rfl⟩ rfl (by first | rfl | assumption) (by omega) (by omega) (Nat.le_of_ble_eq_true rfl) ⟨(Nat.le_of_ble_eq_true rfl), (Nat.le_of_ble_eq_true rfl)⟩ ?_
      refine c_Opening_isOfFile hn hS c_5 (by omega) (hO.1 i c_5) (fun e1 e2 e3 => ?_) (fun e => ?_)
      · refine xk_if_eq (pc := 18) (tgt := 23) d_K_isOpen_18 rfl (fun h => absurd h (by decide)) (fun _ => ?_)
        refine xk_iconst (pc := 21) (v := nI 1) d_K_isOpen_21 (by decide) ?_
        refine xk_zret (pc := 22) rfl d_K_isOpen_22 rfl rfl (Nat.le_of_ble_eq_true rfl) (Nat.le_of_ble_eq_true rfl) ?_
        exact h1 (by unfold xs_openF; rw [xs_least_s (t := i) (by omega) (by omega) (hiff.mpr ⟨e1, e2, e3⟩) (fun j _ b => hj j b)]; rfl)
      · refine xk_if_eq (pc := 18) (tgt := 23) d_K_isOpen_18 rfl (fun _ => ?_) (fun h => absurd (by decide) h)
        refine xk_iincN (pc := 23) (d := 1) d_K_isOpen_23 rfl ?_
        refine xk_goto (pc := 26) (tgt := 2) d_K_isOpen_26 rfl ?_
        exact ih (i + 1) (by omega) (by omega) (fun j b => by
          by_cases q : j = i
          · subst q
            cases hq : (fun o => xs_used O o && decide (O.2.1 o = 0 ∧ O.2.2.1 o = f)) j with
            | false => rfl
            | true =>
              obtain ⟨g1, g2, g3⟩ := hiff.mp hq
              rcases e with e | ⟨a, e⟩ | e
              · exact absurd e g1
              · rw [g2] at e; cases e
              · exact absurd g3 e
          · exact hj j (by omega))

set_option maxRecDepth 20000 in
set_option maxHeartbeats 4000000 in
theorem c_K_isOpen {E : xk_E} {n : Nat} {m : xk_M} {r : xk_P} {Q : xk_Q} (hn : 74 ≤ n) (hS : xr_S r n) {O : xs_O} (hO : xr_O O m r n) {f : Nat} (hf : f < 8) (hw : ∀ o, o < 16 → xs_used O o = true → O.2.1 o = 0 → O.2.2.1 o < 8) (h1 : xs_openF O f = true → Q (some (.inl (nI 1))) n m r) (h0 : xs_openF O f = false → Q (some (.inl (nI 0))) n m r) : xk_W E m_K_isOpen 0 (xk_ent m_K_isOpen [.inr (some 1), .inl (nI f)]) [] n m r 0 0 Q := by
  show xk_W E m_K_isOpen 0 [some (.inr (some 1)), some (.inl (nI f)), none] [] n m r 0 0 Q
  refine xk_iconst (pc := 0) (v := nI 0) d_K_isOpen_0 (by decide) ?_
  refine xk_istore_n (pc := 1) d_K_isOpen_1 (by decide) ?_
  exact l_isOpen hn hS hO hf hw h1 h0 17 0 (by omega) (by omega) (fun j b => by omega)

set_option maxRecDepth 20000 in
set_option maxHeartbeats 4000000 in
theorem l_unused {E : xk_E} {n : Nat} {Q : xk_Q} {m : xk_M} {r : xk_P} {O : xs_O} (hn : 74 ≤ n) (hS : xr_S r n) (hO : xr_O O m r n) {i0 : Nat} {v1 : Option xk_V} (h1 : ∀ o, xs_least (fun o => !xs_used O o) i0 (16 - i0) = some o → o < 16 → Q (some (.inl (nI o))) n m r) (h0 : xs_least (fun o => !xs_used O o) i0 (16 - i0) = none → Q (some (.inl (-1))) n m r) : ∀ (k : Nat) (i : Nat), 16 - i < k → i0 ≤ i → i ≤ 16 → (∀ j, i0 ≤ j → j < i → xs_used O j = true) → xk_W E m_K_unusedFrom 2 [some (.inr (some 1)), v1, some (.inl (nI i))] [] n m r 0 0 Q := by
  intro k
  induction k with
  | zero => intro i h; exact absurd h (Nat.not_lt_zero _)
  | succ k ih =>
    intro i hk hi0 hi hj
    have hcl := xs_cnt_le (g := O.1) (o := i) 42
    refine xk_iload_n (pc := 2) d_K_unusedFrom_2 rfl ?_
    refine xk_bipush (pc := 3) (v := nI 16) d_K_unusedFrom_3 (by decide) ?_
    first | refine xk_icmp_geN (pc := 5) (tgt := 28) d_K_unusedFrom_5 rfl (by omega) (by omega) (fun c_5 => ?_) (fun c_5 => ?_) | refine xk_icmp_ge (pc := 5) (tgt := 28) d_K_unusedFrom_5 rfl (fun c_5 => ?_) (fun c_5 => ?_)
    · refine xk_iconst (pc := 28) (v := (-1)) d_K_unusedFrom_28 (by decide) ?_
      refine xk_iret (pc := 29) rfl d_K_unusedFrom_29 rfl (Nat.le_of_ble_eq_true rfl) (Nat.le_of_ble_eq_true rfl) ?_
      exact h0 (xs_least_n (fun j a b => by rw [hj j a (by omega)]; rfl))
    · have hko := xr_kd_op i c_5
      refine xk_aload_n (pc := 8) d_K_unusedFrom_8 rfl ?_
      refine xk_getRo (pc := 9) d_K_unusedFrom_9 fl_K_37 (by first | rfl | assumption) rfl (by omega) (by omega) (hS _ _ _ rfl (by omega)) ?_
      refine xk_iload_n (pc := 12) d_K_unusedFrom_12 rfl ?_
      refine xk_aaloado (pc := 13) d_K_unusedFrom_13 (by first | rfl | assumption) (by decide) (by decide) (by omega) (by omega) rfl (by omega) (by decide) (hS _ _ _ (xr_st_op _ c_5) (by omega)) ?_
      refine xk_getIo (pc := 14) d_K_unusedFrom_14 fl_K_230 (by first | rfl | assumption) rfl (by omega) (by omega) (hO.1 i c_5) ?_
      first | refine xk_if_neN (pc := 17) (tgt := 22) d_K_unusedFrom_17 rfl (by omega) (fun c_17 => ?_) (fun c_17 => ?_) | refine xk_if_ne (pc := 17) (tgt := 22) d_K_unusedFrom_17 rfl (fun c_17 => ?_) (fun c_17 => ?_)
      · refine xk_iincN (pc := 22) (d := 1) d_K_unusedFrom_22 rfl ?_
        refine xk_goto (pc := 25) (tgt := 2) d_K_unusedFrom_25 rfl ?_
        exact ih (i + 1) (by omega) (by omega) (by omega) (fun j a b => by
          by_cases q : j = i
          · subst q; exact xs_used_iff.mpr c_17
          · exact hj j a (by omega))
      · refine xk_iload_n (pc := 20) d_K_unusedFrom_20 rfl ?_
        refine xk_iret (pc := 21) rfl d_K_unusedFrom_21 rfl (Nat.le_of_ble_eq_true rfl) (Nat.le_of_ble_eq_true rfl) ?_
        exact h1 i (xs_least_s hi0 (by omega) (by rw [xs_u_f c_17]; rfl) (fun j a b => by rw [hj j a b]; rfl)) c_5

set_option maxRecDepth 20000 in
set_option maxHeartbeats 4000000 in
theorem c_K_unusedFrom {E : xk_E} {n : Nat} {m : xk_M} {r : xk_P} {Q : xk_Q} (hn : 74 ≤ n) (hS : xr_S r n) {O : xs_O} (hO : xr_O O m r n) {i0 : Nat} (hi0 : i0 ≤ 16) (h1 : ∀ o, xs_least (fun o => !xs_used O o) i0 (16 - i0) = some o → o < 16 → Q (some (.inl (nI o))) n m r) (h0 : xs_least (fun o => !xs_used O o) i0 (16 - i0) = none → Q (some (.inl (-1))) n m r) : xk_W E m_K_unusedFrom 0 (xk_ent m_K_unusedFrom [.inr (some 1), .inl (nI i0)]) [] n m r 0 0 Q := by
  show xk_W E m_K_unusedFrom 0 [some (.inr (some 1)), some (.inl (nI i0)), none] [] n m r 0 0 Q
  refine xk_iload_n (pc := 0) d_K_unusedFrom_0 rfl ?_
  refine xk_istore_n (pc := 1) d_K_unusedFrom_1 (by decide) ?_
  exact l_unused hn hS hO h1 h0 17 i0 (by omega) (Nat.le_refl _) hi0 (fun j a b => by omega)

set_option maxRecDepth 20000 in
set_option maxHeartbeats 4000000 in
theorem l_opsThere {E : xk_E} {n : Nat} {Q : xk_Q} {m : xk_M} {r : xk_P} {O : xs_O} (hn : 74 ≤ n) (hS : xr_S r n) (hO : xr_O O m r n) (hQ : Q (some (.inl (nI (xs_ops O)))) n m r) : ∀ (k : Nat) (i : Nat), 16 - i < k → i ≤ 16 → xk_W E m_K_openingsThere 4 [some (.inr (some 1)), some (.inl (nI (xs_num (xs_used O) i))), some (.inl (nI i))] [] n m r 0 0 Q := by
  intro k
  induction k with
  | zero => intro i h; exact absurd h (Nat.not_lt_zero _)
  | succ k ih =>
    intro i hk hi
    have hcl := xs_cnt_le (g := O.1) (o := i) 42
    refine xk_iload_n (pc := 4) d_K_openingsThere_4 rfl ?_
    refine xk_bipush (pc := 5) (v := nI 16) d_K_openingsThere_5 (by decide) ?_
    first | refine xk_icmp_geN (pc := 7) (tgt := 31) d_K_openingsThere_7 rfl (by omega) (by omega) (fun c_7 => ?_) (fun c_7 => ?_) | refine xk_icmp_ge (pc := 7) (tgt := 31) d_K_openingsThere_7 rfl (fun c_7 => ?_) (fun c_7 => ?_)
    · have e : i = 16 := by omega
      subst e
      refine xk_iload_n (pc := 31) d_K_openingsThere_31 rfl ?_
      refine xk_iret (pc := 32) rfl d_K_openingsThere_32 rfl (Nat.le_of_ble_eq_true rfl) (Nat.le_of_ble_eq_true rfl) ?_
      exact hQ
    · have hko := xr_kd_op i c_7
      refine xk_aload_n (pc := 10) d_K_openingsThere_10 rfl ?_
      refine xk_getRo (pc := 11) d_K_openingsThere_11 fl_K_37 (by first | rfl | assumption) rfl (by omega) (by omega) (hS _ _ _ rfl (by omega)) ?_
      refine xk_iload_n (pc := 14) d_K_openingsThere_14 rfl ?_
      refine xk_aaloado (pc := 15) d_K_openingsThere_15 (by first | rfl | assumption) (by decide) (by decide) (by omega) (by omega) rfl (by omega) (by decide) (hS _ _ _ (xr_st_op _ c_7) (by omega)) ?_
      refine xk_getIo (pc := 16) d_K_openingsThere_16 fl_K_230 (by first | rfl | assumption) rfl (by omega) (by omega) (hO.1 i c_7) ?_
      first | refine xk_if_leN (pc := 19) (tgt := 25) d_K_openingsThere_19 rfl (by omega) (fun c_19 => ?_) (fun c_19 => ?_) | refine xk_if_le (pc := 19) (tgt := 25) d_K_openingsThere_19 rfl (fun c_19 => ?_) (fun c_19 => ?_)
      · have es : xs_num (xs_used O) (i + 1) = xs_num (xs_used O) i := by
          show xs_num (xs_used O) i + (if xs_used O i = true then 1 else 0) = _
          rw [if_neg (by rw [xs_u_f c_19]; decide)]
          rfl
        refine xk_iincN (pc := 25) (d := 1) d_K_openingsThere_25 rfl ?_
        refine xk_goto (pc := 28) (tgt := 4) d_K_openingsThere_28 rfl ?_
        have K := ih (i + 1) (by omega) (by omega)
        rw [es] at K
        exact K
      · have es : xs_num (xs_used O) (i + 1) = xs_num (xs_used O) i + 1 := by
          show xs_num (xs_used O) i + (if xs_used O i = true then 1 else 0) = _
          rw [if_pos (xs_used_iff.mpr (by omega))]
        refine xk_iincN (pc := 22) (d := 1) d_K_openingsThere_22 rfl ?_
        refine xk_iincN (pc := 25) (d := 1) d_K_openingsThere_25 rfl ?_
        refine xk_goto (pc := 28) (tgt := 4) d_K_openingsThere_28 rfl ?_
        have K := ih (i + 1) (by omega) (by omega)
        rw [es] at K
        exact K

set_option maxRecDepth 20000 in
set_option maxHeartbeats 4000000 in
theorem c_K_openingsThere {E : xk_E} {n : Nat} {m : xk_M} {r : xk_P} {Q : xk_Q} (hn : 74 ≤ n) (hS : xr_S r n) {O : xs_O} (hO : xr_O O m r n) (hQ : Q (some (.inl (nI (xs_ops O)))) n m r) : xk_W E m_K_openingsThere 0 (xk_ent m_K_openingsThere [.inr (some 1)]) [] n m r 0 0 Q := by
  show xk_W E m_K_openingsThere 0 [some (.inr (some 1)), none, none] [] n m r 0 0 Q
  refine xk_iconst (pc := 0) (v := nI 0) d_K_openingsThere_0 (by decide) ?_
  refine xk_istore_n (pc := 1) d_K_openingsThere_1 (by decide) ?_
  refine xk_iconst (pc := 2) (v := nI 0) d_K_openingsThere_2 (by decide) ?_
  refine xk_istore_n (pc := 3) d_K_openingsThere_3 (by decide) ?_
  exact l_opsThere hn hS hO hQ 17 0 (by omega) (by omega)

set_option maxRecDepth 20000 in
set_option maxHeartbeats 4000000 in
theorem l_leastNot {E : xk_E} {n : Nat} {Q : xk_Q} {m : xk_M} {r : xk_P} {T : xs_T} (hn : 74 ≤ n) (hS : xr_S r n) (hT : xr_T T m) (hok : xs_okT T) (h1 : ∀ q, xs_least (fun q => decide (T.1 q = 0)) 1 6 = some q → 1 ≤ q → q < 7 → Q (some (.inl (nI q))) n m r) (h0 : xs_least (fun q => decide (T.1 q = 0)) 1 6 = none → Q (some (.inl (-1))) n m r) : ∀ (k : Nat) (i : Nat), 7 - i < k → 1 ≤ i → i ≤ 7 → (∀ j, 1 ≤ j → j < i → T.1 j ≠ 0) → xk_W E m_K_leastNotThere 2 [some (.inr (some 1)), some (.inl (nI i))] [] n m r 0 0 Q := by
  intro k
  induction k with
  | zero => intro i h; exact absurd h (Nat.not_lt_zero _)
  | succ k ih =>
    intro i hk hi1 hi hj
    refine xk_iload_n (pc := 2) d_K_leastNotThere_2 rfl ?_
    refine xk_bipush (pc := 3) (v := nI 6) d_K_leastNotThere_3 (by decide) ?_
    first | refine xk_icmp_gtN (pc := 5) (tgt := 28) d_K_leastNotThere_5 rfl (by omega) (by omega) (fun c_5 => ?_) (fun c_5 => ?_) | refine xk_icmp_gt (pc := 5) (tgt := 28) d_K_leastNotThere_5 rfl (fun c_5 => ?_) (fun c_5 => ?_)
    · refine xk_iconst (pc := 28) (v := (-1)) d_K_leastNotThere_28 (by decide) ?_
      refine xk_iret (pc := 29) rfl d_K_leastNotThere_29 rfl (Nat.le_of_ble_eq_true rfl) (Nat.le_of_ble_eq_true rfl) ?_
      exact h0 (xs_least_n (fun j a b => decide_eq_false (hj j a (by omega))))
    · have hi7 : i < 7 := by omega
      have hkt := xr_kd_ta i hi7
      have hle := hok.2.2.1 i hi7
      refine xk_aload_n (pc := 8) d_K_leastNotThere_8 rfl ?_
      refine xk_getRo (pc := 9) d_K_leastNotThere_9 fl_K_44 (by first | rfl | assumption) rfl (by omega) (by omega) (hS _ _ _ rfl (by omega)) ?_
      refine xk_iload_n (pc := 12) d_K_leastNotThere_12 rfl ?_
      refine xk_aaloado (pc := 13) d_K_leastNotThere_13 (by first | rfl | assumption) (by decide) (by decide) (by omega) (by omega) rfl (by omega) (by decide) (hS _ _ _ (xr_st_ts _ hi7) (by omega)) ?_
      refine xk_getIo (pc := 14) d_K_leastNotThere_14 fl_K_173 (by first | rfl | assumption) rfl (by omega) (by omega) (hT.1 i hi7) ?_
      first | refine xk_if_neN (pc := 17) (tgt := 22) d_K_leastNotThere_17 rfl (by omega) (fun c_17 => ?_) (fun c_17 => ?_) | refine xk_if_ne (pc := 17) (tgt := 22) d_K_leastNotThere_17 rfl (fun c_17 => ?_) (fun c_17 => ?_)
      · refine xk_iincN (pc := 22) (d := 1) d_K_leastNotThere_22 rfl ?_
        refine xk_goto (pc := 25) (tgt := 2) d_K_leastNotThere_25 rfl ?_
        exact ih (i + 1) (by omega) (by omega) (by omega) (fun j a b => by
          by_cases q : j = i
          · subst q; exact c_17
          · exact hj j a (by omega))
      · refine xk_iload_n (pc := 20) d_K_leastNotThere_20 rfl ?_
        refine xk_iret (pc := 21) rfl d_K_leastNotThere_21 rfl (Nat.le_of_ble_eq_true rfl) (Nat.le_of_ble_eq_true rfl) ?_
        exact h1 i (xs_least_s hi1 (by omega) (decide_eq_true c_17) (fun j a b => decide_eq_false (hj j a b))) hi1 hi7

set_option maxRecDepth 20000 in
set_option maxHeartbeats 4000000 in
theorem c_K_leastNotThere {E : xk_E} {n : Nat} {m : xk_M} {r : xk_P} {Q : xk_Q} (hn : 74 ≤ n) (hS : xr_S r n) {T : xs_T} (hT : xr_T T m) (hok : xs_okT T) (h1 : ∀ q, xs_least (fun q => decide (T.1 q = 0)) 1 6 = some q → 1 ≤ q → q < 7 → Q (some (.inl (nI q))) n m r) (h0 : xs_least (fun q => decide (T.1 q = 0)) 1 6 = none → Q (some (.inl (-1))) n m r) : xk_W E m_K_leastNotThere 0 (xk_ent m_K_leastNotThere [.inr (some 1)]) [] n m r 0 0 Q := by
  show xk_W E m_K_leastNotThere 0 [some (.inr (some 1)), none] [] n m r 0 0 Q
  refine xk_iconst (pc := 0) (v := nI 1) d_K_leastNotThere_0 (by decide) ?_
  refine xk_istore_n (pc := 1) d_K_leastNotThere_1 (by decide) ?_
  exact l_leastNot hn hS hT hok h1 h0 8 1 (by omega) (by omega) (by omega) (fun j a b => by omega)

set_option maxRecDepth 20000 in
set_option maxHeartbeats 4000000 in
theorem l_tasksThere {E : xk_E} {n : Nat} {Q : xk_Q} {m : xk_M} {r : xk_P} {T : xs_T} (hn : 74 ≤ n) (hS : xr_S r n) (hT : xr_T T m) (hok : xs_okT T) (hQ : Q (some (.inl (nI (xs_num (fun q => decide (1 ≤ q ∧ T.1 q ≠ 0)) 7)))) n m r) : ∀ (k : Nat) (i : Nat), 7 - i < k → 1 ≤ i → i ≤ 7 → xk_W E m_K_tasksThere 4 [some (.inr (some 1)), some (.inl (nI (xs_num (fun q => decide (1 ≤ q ∧ T.1 q ≠ 0)) i))), some (.inl (nI i))] [] n m r 0 0 Q := by
  intro k
  induction k with
  | zero => intro i h; exact absurd h (Nat.not_lt_zero _)
  | succ k ih =>
    intro i hk hi1 hi
    refine xk_iload_n (pc := 4) d_K_tasksThere_4 rfl ?_
    refine xk_bipush (pc := 5) (v := nI 6) d_K_tasksThere_5 (by decide) ?_
    first | refine xk_icmp_gtN (pc := 7) (tgt := 31) d_K_tasksThere_7 rfl (by omega) (by omega) (fun c_7 => ?_) (fun c_7 => ?_) | refine xk_icmp_gt (pc := 7) (tgt := 31) d_K_tasksThere_7 rfl (fun c_7 => ?_) (fun c_7 => ?_)
    · have e : i = 7 := by omega
      subst e
      refine xk_iload_n (pc := 31) d_K_tasksThere_31 rfl ?_
      refine xk_iret (pc := 32) rfl d_K_tasksThere_32 rfl (Nat.le_of_ble_eq_true rfl) (Nat.le_of_ble_eq_true rfl) ?_
      exact hQ
    · have hi7 : i < 7 := by omega
      have hkt := xr_kd_ta i hi7
      have hle := hok.2.2.1 i hi7
      refine xk_aload_n (pc := 10) d_K_tasksThere_10 rfl ?_
      refine xk_getRo (pc := 11) d_K_tasksThere_11 fl_K_44 (by first | rfl | assumption) rfl (by omega) (by omega) (hS _ _ _ rfl (by omega)) ?_
      refine xk_iload_n (pc := 14) d_K_tasksThere_14 rfl ?_
      refine xk_aaloado (pc := 15) d_K_tasksThere_15 (by first | rfl | assumption) (by decide) (by decide) (by omega) (by omega) rfl (by omega) (by decide) (hS _ _ _ (xr_st_ts _ hi7) (by omega)) ?_
      refine xk_getIo (pc := 16) d_K_tasksThere_16 fl_K_173 (by first | rfl | assumption) rfl (by omega) (by omega) (hT.1 i hi7) ?_
      first | refine xk_if_eqN (pc := 19) (tgt := 25) d_K_tasksThere_19 rfl (by omega) (fun c_19 => ?_) (fun c_19 => ?_) | refine xk_if_eq (pc := 19) (tgt := 25) d_K_tasksThere_19 rfl (fun c_19 => ?_) (fun c_19 => ?_)
      · have es : xs_num (fun q => decide (1 ≤ q ∧ T.1 q ≠ 0)) (i + 1) = xs_num (fun q => decide (1 ≤ q ∧ T.1 q ≠ 0)) i := by
          show xs_num _ i + (if decide (1 ≤ i ∧ T.1 i ≠ 0) = true then 1 else 0) = _
          rw [if_neg (by simp [c_19])]
          rfl
        refine xk_iincN (pc := 25) (d := 1) d_K_tasksThere_25 rfl ?_
        refine xk_goto (pc := 28) (tgt := 4) d_K_tasksThere_28 rfl ?_
        have K := ih (i + 1) (by omega) (by omega) (by omega)
        rw [es] at K
        exact K
      · have es : xs_num (fun q => decide (1 ≤ q ∧ T.1 q ≠ 0)) (i + 1) = xs_num (fun q => decide (1 ≤ q ∧ T.1 q ≠ 0)) i + 1 := by
          show xs_num _ i + (if decide (1 ≤ i ∧ T.1 i ≠ 0) = true then 1 else 0) = _
          rw [if_pos (decide_eq_true ⟨hi1, c_19⟩)]
        refine xk_iincN (pc := 22) (d := 1) d_K_tasksThere_22 rfl ?_
        refine xk_iincN (pc := 25) (d := 1) d_K_tasksThere_25 rfl ?_
        refine xk_goto (pc := 28) (tgt := 4) d_K_tasksThere_28 rfl ?_
        have K := ih (i + 1) (by omega) (by omega) (by omega)
        rw [es] at K
        exact K

set_option maxRecDepth 20000 in
set_option maxHeartbeats 4000000 in
theorem c_K_tasksThere {E : xk_E} {n : Nat} {m : xk_M} {r : xk_P} {Q : xk_Q} (hn : 74 ≤ n) (hS : xr_S r n) {T : xs_T} (hT : xr_T T m) (hok : xs_okT T) (hQ : Q (some (.inl (nI (xs_num (fun q => decide (1 ≤ q ∧ T.1 q ≠ 0)) 7)))) n m r) : xk_W E m_K_tasksThere 0 (xk_ent m_K_tasksThere [.inr (some 1)]) [] n m r 0 0 Q := by
  show xk_W E m_K_tasksThere 0 [some (.inr (some 1)), none, none] [] n m r 0 0 Q
  refine xk_iconst (pc := 0) (v := nI 0) d_K_tasksThere_0 (by decide) ?_
  refine xk_istore_n (pc := 1) d_K_tasksThere_1 (by decide) ?_
  refine xk_iconst (pc := 2) (v := nI 1) d_K_tasksThere_2 (by decide) ?_
  refine xk_istore_n (pc := 3) d_K_tasksThere_3 (by decide) ?_
  have e1 : xs_num (fun q => decide (1 ≤ q ∧ T.1 q ≠ 0)) 1 = 0 := by
    show 0 + (if decide (1 ≤ 0 ∧ T.1 0 ≠ 0) = true then 1 else 0) = 0
    rw [if_neg (by simp)]
  have K := l_tasksThere (E := E) hn hS hT hok hQ 8 1 (by omega) (by omega) (by omega)
  rw [e1] at K
  exact K
end
section
/-! openings come and go -/
theorem xs_lsome {p : Nat → Bool} {k : Nat} : (xs_least p 0 k).isSome = true ↔ ∃ o, o < k ∧ p o = true := by
  constructor
  · intro h
    cases hq : xs_least p 0 k with
    | none => rw [hq] at h; cases h
    | some t =>
      obtain ⟨a, b, c, d⟩ := xs_least_sp hq
      exact ⟨t, by omega, c⟩
  · rintro ⟨o, h1, h2⟩
    cases hq : xs_least p 0 k with
    | none =>
      have := xs_least_np hq o (by omega) (by omega)
      rw [this] at h2
      cases h2
    | some t => rfl
theorem xs_end_iff {O : xs_O} {q e : Nat} : xs_end O q e = true ↔ ∃ o, o < 16 ∧ xs_used O o = true ∧ O.2.1 o = e ∧ O.2.2.1 o = q := by
  unfold xs_end
  rw [xs_lsome]
  constructor
  · rintro ⟨o, h1, h2⟩
    rw [Bool.and_eq_true] at h2
    have := of_decide_eq_true h2.2
    exact ⟨o, h1, h2.1, this.1, this.2⟩
  · rintro ⟨o, h1, h2, h3, h4⟩
    exact ⟨o, h1, by rw [h2, decide_eq_true ⟨h3, h4⟩]; rfl⟩
theorem xs_bool {a b : Bool} (h : a = true ↔ b = true) : a = b := by
  cases a <;> cases b <;> first | rfl | exact absurd (h.mpr rfl) (by decide) | exact absurd (h.mp rfl) (by decide)
theorem xs_end_congr {O O' : xs_O} {q e : Nat} (h : ∀ o, o < 16 → (xs_used O' o = true ∧ O'.2.1 o = e ∧ O'.2.2.1 o = q ↔ xs_used O o = true ∧ O.2.1 o = e ∧ O.2.2.1 o = q)) : xs_end O' q e = xs_end O q e := by
  apply xs_bool
  rw [xs_end_iff, xs_end_iff]
  constructor
  · rintro ⟨o, h1, h2⟩
    exact ⟨o, h1, (h o h1).mp h2⟩
  · rintro ⟨o, h1, h2⟩
    exact ⟨o, h1, (h o h1).mpr h2⟩
theorem xr_O_kept {O : xs_O} {m m' : xk_M} {r r' : xk_P} {n n' : Nat} (h : xr_O O m r n) (hn : n ≤ n') (hm : ∀ a, 22 ≤ a → a < 38 → m' a = m a) (hm2 : ∀ a, 74 ≤ a → a < n → m' a = m a) (hr : ∀ a, 22 ≤ a → a < 53 → r' a = r a) : xr_O O m' r' n' := by
  obtain ⟨h1, h2, pa, h3, h4, h5⟩ := h
  refine ⟨fun o ho => by rw [hm _ (by omega) (by omega)]; exact h1 o ho, fun p d hp hd => by rw [hr _ (by omega) (by omega)]; exact h2 p d hp hd, pa, fun o ho hu => ?_, fun o ho hu hk => ?_, h5⟩
  · unfold xr_I
    rw [hm _ (by omega) (by omega), hr _ (by omega) (by omega)]
    exact h3 o ho hu
  · obtain ⟨a1, a2, a3, a4, a5⟩ := h4 o ho hu hk
    refine ⟨a1, a2, by omega, ?_⟩
    rw [hm2 _ a1 (by omega), hm2 _ (by omega) a3]
    exact ⟨a4, a5⟩
theorem xr_T_kept {T : xs_T} {m m' : xk_M} (h : xr_T T m) (hm : ∀ a, 39 ≤ a → a < 53 → m' a = m a) : xr_T T m' := by
  obtain ⟨h1, h2, h3, h4⟩ := h
  exact ⟨fun p hp => by rw [hm _ (by omega) (by omega)]; exact h1 p hp, fun p a b c => by rw [hm _ (by omega) (by omega)]; exact h2 p a b c, by rw [hm _ (by omega) (by omega)]; exact h3, fun p hp c => by rw [hm _ (by omega) (by omega)]; exact h4 p hp c⟩
theorem xs_cnt_n {O : xs_O} {k o o' : Nat} (hk : k < 42) (h0 : O.1 k = none) : xs_cnt (xs_of O k (some o)).1 o' 42 = xs_cnt O.1 o' 42 + (if o = o' then 1 else 0) := by
  have := xs_cnt_u (g := O.1) (v := some o) (o := o') 42 hk
  rw [h0, if_neg (by simp)] at this
  show xs_cnt (xs_u O.1 k (some o)) o' 42 = _
  by_cases e : o = o'
  · subst e
    rw [if_pos rfl] at this ⊢
    omega
  · rw [if_neg (by simpa using e)] at this
    rw [if_neg e]
    omega
theorem xs_cnt_r {O : xs_O} {k o o' : Nat} (hk : k < 42) (h0 : O.1 k = some o) : xs_cnt (xs_of O k none).1 o' 42 + (if o = o' then 1 else 0) = xs_cnt O.1 o' 42 := by
  have := xs_cnt_u (g := O.1) (v := none) (o := o') 42 hk
  rw [h0, if_neg (by simp : ¬ (none : Option Nat) = some o')] at this
  show xs_cnt (xs_u O.1 k none) o' 42 + _ = _
  by_cases e : o = o'
  · subst e
    rw [if_pos rfl] at this ⊢
    omega
  · rw [if_neg (by simpa using e)] at this
    rw [if_neg e]
    omega
theorem xr_D_up {O : xs_O} {r : xk_P} {p d : Nat} {v : Option Nat} (h : ∀ p d, p < 7 → d < 6 → r (40 + 2 * p) d = (O.1 (6 * p + d)).map (fun o => 22 + o)) (hd : d < 6) : ∀ p' d', p' < 7 → d' < 6 → xk_up r (40 + 2 * p) d (v.map (fun o => 22 + o)) (40 + 2 * p') d' = ((xs_of O (6 * p + d) v).1 (6 * p' + d')).map (fun o => 22 + o) := by
  intro p' d' hp' hd'
  show _ = (xs_u O.1 (6 * p + d) v (6 * p' + d')).map _
  by_cases e : p' = p ∧ d' = d
  · obtain ⟨rfl, rfl⟩ := e
    rw [xk_up_s, xs_u_s]
  · rw [xs_u_n (by omega)]
    unfold xk_up
    rw [if_neg (by omega)]
    exact h p' d' hp' hd'
/-- another descriptor of an opening that is there -/
theorem xr_O_hold {O : xs_O} {m : xk_M} {r : xk_P} {n p d o : Nat} (h : xr_O O m r n) (hp : p < 7) (hd : d < 6) (ho : o < 16) (h0 : O.1 (6 * p + d) = none) (hu : xs_used O o = true) : xr_O (xs_of O (6 * p + d) (some o)) (xk_up m (22 + o) 0 (nI (xs_cnt O.1 o 42 + 1))) (xk_up r (40 + 2 * p) d (some (22 + o))) n := by
  obtain ⟨h1, h2, pa, h3, h4, h5⟩ := h
  have us : ∀ o', xs_used (xs_of O (6 * p + d) (some o)) o' = xs_used O o' := fun o' => xs_bool (by
    rw [xs_used_iff, xs_used_iff, xs_cnt_n (by omega) h0]
    have := xs_used_iff.mp hu
    by_cases e : o = o'
    · subst e; rw [if_pos rfl]; omega
    · rw [if_neg e]; omega)
  have es : ∀ q e, xs_end (xs_of O (6 * p + d) (some o)) q e = xs_end O q e := fun q e => xs_end_congr (fun o' _ => by rw [us]; exact Iff.rfl)
  refine ⟨fun o' ho' => ?_, xr_D_up (v := some o) h2 hd, pa, fun o' ho' hu' => ?_, fun o' ho' hu' hk' => ?_, fun a b ha hb ua ub => ?_⟩
  · rw [xs_cnt_n (by omega) h0]
    by_cases e : o = o'
    · subst e; rw [xk_up_s, if_pos rfl]
    · rw [xk_up_a (by omega), if_neg e]; exact h1 o' ho'
  · rw [us] at hu'
    obtain ⟨i1, i2, i3⟩ := h3 o' ho' hu'
    refine ⟨by rw [xk_up_k (by decide)]; exact i1, fun k => ?_, fun k => ?_⟩
    · rw [xk_up_a (by omega), xk_up_k (by decide), xk_up_k (by decide)]; exact i2 k
    · rw [xk_up_a (by omega)]; exact i3 k
  · rw [us] at hu'
    obtain ⟨a1, a2, a3, ⟨old, b1, b2, b3, b4⟩, a5, a6⟩ := h4 o' ho' hu' hk'
    refine ⟨a1, a2, a3, ⟨old, b1, ?_, ?_, fun i x hx => ?_⟩, ?_, ?_⟩
    · rw [xk_up_k (by decide)]; exact b2
    · rw [xk_up_k (by decide)]; exact b3
    · have e1 : pa ((xs_of O (6 * p + d) (some o)).2.2.1 o') + 1 ≠ 22 + o := by
        change 74 ≤ pa ((xs_of O (6 * p + d) (some o)).2.2.1 o') at a1
        omega
      rw [xk_up_a e1]; exact b4 i x hx
    · rw [xk_up_k (by decide), es]; exact a5
    · rw [xk_up_k (by decide), es]; exact a6
  · rw [us] at ua ub
    exact h5 a b ha hb ua ub
/-- what is asked of openings that are there -/
def xs_okU (O : xs_O) : Prop := (∀ o, o < 16 → xs_used O o = true → O.2.1 o ≤ 2 ∧ O.2.2.2.1 o < 32 ∧ (O.2.1 o = 0 → O.2.2.1 o < 8 ∧ O.2.2.2.2.1 o ≤ 32) ∧ (O.2.1 o ≠ 0 → O.2.2.1 o < 16 ∧ O.2.2.2.1 o = O.2.1 o ∧ (O.2.2.2.2.2 (O.2.2.1 o)).length ≤ 4)) ∧ (∀ o o', o < 16 → o' < 16 → xs_used O o = true → xs_used O o' = true → O.2.1 o ≠ 0 → O.2.1 o = O.2.1 o' → O.2.2.1 o = O.2.2.1 o' → o = o')
theorem xs_okU_sub {O O' : xs_O} (h : xs_okU O) (hu : ∀ o, xs_used O' o = true → xs_used O o = true) (h2 : O'.2 = O.2) : xs_okU O' := by
  unfold xs_okU
  rw [h2]
  exact ⟨fun o ho u => h.1 o ho (hu o u), fun a b ha hb ua ub => h.2 a b ha hb (hu a ua) (hu b ub)⟩
theorem xs_used_r {O : xs_O} {k : Nat} (hk : k < 42) (o' : Nat) (h : xs_used (xs_of O k none) o' = true) : xs_used O o' = true := by
  rw [xs_used_iff] at h ⊢
  cases h0 : O.1 k with
  | none =>
    have := xs_cnt_u (g := O.1) (v := none) (o := o') 42 hk
    rw [h0] at this
    change xs_cnt (xs_u O.1 k none) o' 42 ≠ 0 at h
    omega
  | some o =>
    have := xs_cnt_r (o' := o') hk h0
    omega
theorem xs_of_none {O : xs_O} {k : Nat} (h : O.1 k = none) : xs_of O k none = O := by
  have : xs_u O.1 k none = O.1 := by
    funext j
    by_cases e : j = k
    · subst e; rw [xs_u_s, h]
    · rw [xs_u_n e]
  show (xs_u O.1 k none, O.2) = O
  rw [this]
/-- a descriptor goes, its opening stays -/
theorem xr_O_let {O : xs_O} {m : xk_M} {r : xk_P} {n p d o c : Nat} (h : xr_O O m r n) (hp : p < 7) (hd : d < 6) (ho : o < 16) (h0 : O.1 (6 * p + d) = some o) (hc : xs_cnt O.1 o 42 = c + 1) (hc0 : c ≠ 0) : xr_O (xs_of O (6 * p + d) none) (xk_up m (22 + o) 0 (nI c)) (xk_up r (40 + 2 * p) d none) n := by
  obtain ⟨h1, h2, pa, h3, h4, h5⟩ := h
  have cr := fun o' => xs_cnt_r (o' := o') (by omega : 6 * p + d < 42) h0
  have us : ∀ o', xs_used (xs_of O (6 * p + d) none) o' = xs_used O o' := fun o' => xs_bool (by
    rw [xs_used_iff, xs_used_iff]
    have := cr o'
    by_cases e : o = o'
    · subst e; rw [if_pos rfl] at this; omega
    · rw [if_neg e] at this; omega)
  have es : ∀ q e, xs_end (xs_of O (6 * p + d) none) q e = xs_end O q e := fun q e => xs_end_congr (fun o' _ => by rw [us]; exact Iff.rfl)
  refine ⟨fun o' ho' => ?_, xr_D_up (v := none) h2 hd, pa, fun o' ho' hu' => ?_, fun o' ho' hu' hk' => ?_, fun a b ha hb ua ub => ?_⟩
  · have := cr o'
    by_cases e : o = o'
    · subst e; rw [if_pos rfl] at this; rw [xk_up_s, show xs_cnt (xs_of O (6 * p + d) none).1 o 42 = c by omega]
    · rw [if_neg e] at this; rw [xk_up_a (by omega), show xs_cnt (xs_of O (6 * p + d) none).1 o' 42 = xs_cnt O.1 o' 42 by omega]; exact h1 o' ho'
  · rw [us] at hu'
    obtain ⟨i1, i2, i3⟩ := h3 o' ho' hu'
    refine ⟨by rw [xk_up_k (by decide)]; exact i1, fun k => ?_, fun k => ?_⟩
    · rw [xk_up_a (by omega), xk_up_k (by decide), xk_up_k (by decide)]; exact i2 k
    · rw [xk_up_a (by omega)]; exact i3 k
  · rw [us] at hu'
    obtain ⟨a1, a2, a3, ⟨old, b1, b2, b3, b4⟩, a5, a6⟩ := h4 o' ho' hu' hk'
    refine ⟨a1, a2, a3, ⟨old, b1, ?_, ?_, fun i x hx => ?_⟩, ?_, ?_⟩
    · rw [xk_up_k (by decide)]; exact b2
    · rw [xk_up_k (by decide)]; exact b3
    · have e1 : pa ((xs_of O (6 * p + d) none).2.2.1 o') + 1 ≠ 22 + o := by
        change 74 ≤ pa ((xs_of O (6 * p + d) none).2.2.1 o') at a1
        omega
      rw [xk_up_a e1]; exact b4 i x hx
    · rw [xk_up_k (by decide), es]; exact a5
    · rw [xk_up_k (by decide), es]; exact a6
  · rw [us] at ua ub
    exact h5 a b ha hb ua ub
/-- the last descriptor goes: of a file (then m1 is all), or of an end of a pipe (then that end's mark goes) -/
theorem xr_O_last {O : xs_O} {m m1 : xk_M} {r : xk_P} {n p d o : Nat} (h : xr_O O m r n) (hk : xs_okU O) (hp : p < 7) (hd : d < 6) (ho : o < 16) (h0 : O.1 (6 * p + d) = some o) (hc : xs_cnt O.1 o 42 = 1)
    (hm : ∀ a, a ≠ 22 + o → r (22 + o) 4 ≠ some a → m1 a = m a) (hm0 : m1 (22 + o) 0 = nI 0) (hA : ∀ A, r (22 + o) 4 = some A → 74 ≤ A → (∀ j, j ≠ O.2.1 o + 2 → m1 A j = m A j) ∧ m1 A (O.2.1 o + 2) = nI 0) : xr_O (xs_of O (6 * p + d) none) m1 (xk_up r (40 + 2 * p) d none) n := by
  obtain ⟨h1, h2, pa, h3, h4, h5⟩ := h
  have hu : xs_used O o = true := xs_used_iff.mpr (by omega)
  have cr := fun o' => xs_cnt_r (o' := o') (by omega : 6 * p + d < 42) h0
  have us : ∀ o', xs_used (xs_of O (6 * p + d) none) o' = true ↔ xs_used O o' = true ∧ o' ≠ o := fun o' => by
    rw [xs_used_iff, xs_used_iff]
    have := cr o'
    by_cases e : o = o'
    · subst e; rw [if_pos rfl] at this
      constructor
      · intro q; omega
      · rintro ⟨-, q⟩; exact absurd rfl q
    · rw [if_neg e] at this
      constructor
      · intro q; exact ⟨by omega, Ne.symm e⟩
      · rintro ⟨q, -⟩; omega
  obtain ⟨io1, io2, io3⟩ := h3 o ho hu
  have apart : ∀ o', o' < 16 → xs_used O o' = true → O.2.1 o' ≠ 0 → ∀ A, r (22 + o) 4 = some A → pa (O.2.2.1 o') = A → O.2.1 o ≠ 0 ∧ O.2.2.1 o' = O.2.2.1 o := by
    intro o' ho' hu' hk' A hA' e
    have k0 : O.2.1 o ≠ 0 := fun q => by rw [(io2 q).1] at hA'; cases hA'
    have e2 := Option.some.inj ((io3 k0).symm.trans hA')
    exact ⟨k0, h5 o' o ho' ho hu' hu hk' k0 (e.trans e2.symm)⟩
  refine ⟨fun o' ho' => ?_, xr_D_up (v := none) h2 hd, pa, fun o' ho' hu' => ?_, fun o' ho' hu' hk' => ?_, fun a b ha hb ua ub => ?_⟩
  · have := cr o'
    by_cases e : o = o'
    · subst e; rw [if_pos rfl] at this; rw [hm0, show xs_cnt (xs_of O (6 * p + d) none).1 o 42 = 0 by omega]
    · rw [if_neg e] at this
      rw [hm (22 + o') (by omega) (fun q => by
        have k0 : O.2.1 o ≠ 0 := fun z => by rw [(io2 z).1] at q; cases q
        have e2 := Option.some.inj ((io3 k0).symm.trans q)
        have := (h4 o ho hu k0).1
        omega), show xs_cnt (xs_of O (6 * p + d) none).1 o' 42 = xs_cnt O.1 o' 42 by omega]
      exact h1 o' ho'
  · obtain ⟨u', ne⟩ := (us o').mp hu'
    obtain ⟨i1, i2, i3⟩ := h3 o' ho' u'
    have hm' : m1 (22 + o') = m (22 + o') := hm (22 + o') (by omega) (fun q => by
        have k0 : O.2.1 o ≠ 0 := fun z => by rw [(io2 z).1] at q; cases q
        have e2 := Option.some.inj ((io3 k0).symm.trans q)
        have := (h4 o ho hu k0).1
        omega)
    refine ⟨by rw [hm']; exact i1, fun k => ?_, fun k => ?_⟩
    · rw [hm', xk_up_a (by omega)]; exact i2 k
    · rw [xk_up_a (by omega)]; exact i3 k
  · obtain ⟨u', ne⟩ := (us o').mp hu'
    have hk2 : O.2.1 o' ≠ 0 := hk'
    obtain ⟨a1, a2, a3, ⟨old, b1, b2, b3, b4⟩, a5, a6⟩ := h4 o' ho' u' hk2
    show xr_P (xs_of O (6 * p + d) none) (pa (O.2.2.1 o')) (O.2.2.1 o') m1 n
    have hc1 : m1 (pa (O.2.2.1 o') + 1) = m (pa (O.2.2.1 o') + 1) := hm _ (by omega) (fun q => by
      have k0 : O.2.1 o ≠ 0 := fun z => by rw [(io2 z).1] at q; cases q
      have e2 := Option.some.inj ((io3 k0).symm.trans q)
      have := (h4 o ho hu k0).2.1
      omega)
    have endo : ∀ e, (O.2.1 o = e ∧ O.2.2.1 o = O.2.2.1 o' → e = O.2.1 o) := fun e q => q.1.symm
    have es : ∀ e, ¬ (O.2.1 o = e ∧ O.2.2.1 o = O.2.2.1 o') → xs_end (xs_of O (6 * p + d) none) (O.2.2.1 o') e = xs_end O (O.2.2.1 o') e := fun e ne2 => xs_end_congr (fun z hz => by
      rw [us]
      constructor
      · rintro ⟨⟨q1, -⟩, q2⟩; exact ⟨q1, q2⟩
      · rintro ⟨q1, q2⟩
        exact ⟨⟨q1, fun e2 => ne2 (by rw [← e2]; exact q2)⟩, q2⟩)
    have ez : ∀ e, O.2.1 o = e → e ≠ 0 → O.2.2.1 o = O.2.2.1 o' → xs_end (xs_of O (6 * p + d) none) (O.2.2.1 o') e = false := fun e q1 q0 q2 => by
      cases hq : xs_end (xs_of O (6 * p + d) none) (O.2.2.1 o') e with
      | false => rfl
      | true =>
        obtain ⟨z, z1, z2, z3, z4⟩ := xs_end_iff.mp hq
        obtain ⟨z5, z6⟩ := (us z).mp z2
        have := hk.2 o z ho z1 hu z5 (by rw [q1]; exact q0) (by rw [q1]; exact z3.symm) (by rw [q2]; exact z4.symm)
        exact absurd this.symm z6
    have ko := (hk.1 o ho hu).1
    by_cases hq : r (22 + o) 4 = some (pa (O.2.2.1 o'))
    · obtain ⟨k0, w0⟩ := apart o' ho' u' hk2 _ hq rfl
      obtain ⟨g1, g2⟩ := hA _ hq a1
      refine ⟨a1, a2, a3, ⟨old, b1, ?_, ?_, fun i x hx => by rw [hc1]; exact b4 i x hx⟩, ?_, ?_⟩
      · rw [g1 1 (by omega)]; exact b2
      · rw [g1 2 (by omega)]; exact b3
      · by_cases e1 : O.2.1 o = 1
        · rw [ez 1 e1 (by decide) w0.symm]
          have g3 := g2
          rw [e1] at g3
          exact g3
        · rw [g1 3 (by omega), es 1 (fun q => e1 q.1)]; exact a5
      · by_cases e1 : O.2.1 o = 2
        · rw [ez 2 e1 (by decide) w0.symm]
          have g3 := g2
          rw [e1] at g3
          exact g3
        · rw [g1 4 (by omega), es 2 (fun q => e1 q.1)]; exact a6
    · have hmA : m1 (pa (O.2.2.1 o')) = m (pa (O.2.2.1 o')) := hm _ (by omega) hq
      have nw : ∀ e, e ≠ 0 → ¬ (O.2.1 o = e ∧ O.2.2.1 o = O.2.2.1 o') := fun e e0 q => hq (by rw [io3 (by rw [q.1]; exact e0), q.2])
      refine ⟨a1, a2, a3, ⟨old, b1, by rw [hmA]; exact b2, by rw [hmA]; exact b3, fun i x hx => by rw [hc1]; exact b4 i x hx⟩, ?_, ?_⟩
      · rw [hmA, es 1 (nw 1 (by decide))]; exact a5
      · rw [hmA, es 2 (nw 2 (by decide))]; exact a6
  · exact h5 a b ha hb ((us a).mp ua).1 ((us b).mp ub).1
end
section
theorem xs_bit1 : ∀ k, k ≤ 2 → k ≠ 0 → (nI k &&& nI 1 = 0 ↔ k = 2) := by decide

theorem xr_0_dek : ∀ p, p < 7 → ∀ k, xr_st (40 + 2 * p) k = none := by
  intro p hp k
  match p, hp with
  | 0, _ => rfl
  | 1, _ => rfl
  | 2, _ => rfl
  | 3, _ => rfl
  | 4, _ => rfl
  | 5, _ => rfl
  | 6, _ => rfl

set_option maxRecDepth 20000 in
set_option maxHeartbeats 4000000 in
theorem c_Task_letGo {E : xk_E} {n : Nat} {m : xk_M} {r : xk_P} {Q : xk_Q} (hn : 74 ≤ n) (hS : xr_S r n) {p : Nat} (hp : p < 7) {d : Nat} (hd : d < 6) {O : xs_O} (hO : xr_O O m r n) (hU : xs_okU O) (h16 : ∀ k o, k < 42 → O.1 k = some o → o < 16) (hQ : ∀ m' r', xr_O (xs_of O (6 * p + d) none) m' r' n → (∀ a, (a < 22 ∨ (38 ≤ a ∧ a < 74)) → m' a = m a) → (∀ a, a ≠ 40 + 2 * p → r' a = r a) → Q none n m' r') : xk_W E m_Task_letGo 0 (xk_ent m_Task_letGo [.inr (some (39 + 2 * p)), .inl (nI d)]) [] n m r 0 0 Q := by
  show xk_W E m_Task_letGo 0 [some (.inr (some (39 + 2 * p))), some (.inl (nI d)), none] [] n m r 0 0 Q
  have hkt := xr_kd_ta p hp
  have hkd := xr_kd_de p hp
  refine xk_aload_n (pc := 0) d_Task_letGo_0 rfl ?_
  refine xk_getRo (pc := 1) d_Task_letGo_1 fl_Task_23 (by first | rfl | assumption) rfl (by omega) (by omega) (hS _ _ _ (xr_st_ta _ hp) (by omega)) ?_
  refine xk_iload_n (pc := 4) d_Task_letGo_4 rfl ?_
  refine xk_aaloado (pc := 5) d_Task_letGo_5 (by first | rfl | assumption) (by decide) (by decide) (by omega) (by omega) rfl (by omega) (by decide) (hO.2.1 p d hp hd) ?_
  refine xk_astore_n (pc := 6) d_Task_letGo_6 (by decide) ?_
  refine xk_aload_n (pc := 7) d_Task_letGo_7 rfl ?_
  refine xk_ifnull (pc := 8) (tgt := 22) d_Task_letGo_8 rfl (fun c_8 => ?_) (fun a_8 c_8 => ?_)
  · have e0 : O.1 (6 * p + d) = none := by
      cases hq : O.1 (6 * p + d) with
      | none => rfl
      | some o => rw [hq] at c_8; cases c_8
    rw [xs_of_none e0] at hQ
    refine xk_vret (pc := 22) rfl d_Task_letGo_22 rfl (Nat.le_of_ble_eq_true rfl) (Nat.le_of_ble_eq_true rfl) ?_
    first | exact hQ _ _ hfin hfr (fun a ha => by funext j; exact xk_up_a ha) | exact hQ m r hO (fun _ _ => rfl) (fun _ _ => rfl)
  · obtain ⟨o, e0, ea⟩ : ∃ o, O.1 (6 * p + d) = some o ∧ a_8 = 22 + o := by
      cases hq : O.1 (6 * p + d) with
      | none => rw [hq] at c_8; cases c_8
      | some o => rw [hq] at c_8; exact ⟨o, rfl, (Option.some.inj c_8).symm⟩
    subst ea
    have c_8' : (O.1 (6 * p + d)).map (fun o => 22 + o) = some (22 + o) := c_8
    rw [c_8']
    have ho := h16 _ o (by omega) e0
    have hu := xs_used_of (by omega) e0
    have hcle := xs_cnt_le (g := O.1) (o := o) 42
    obtain ⟨c, hc⟩ : ∃ c, xs_cnt O.1 o 42 = c + 1 := ⟨xs_cnt O.1 o 42 - 1, by have := xs_used_iff.mp hu; omega⟩
    have hcm : m (22 + o) 0 = nI (c + 1) := by rw [← hc]; exact hO.1 o ho
    have hko := xr_kd_op o ho
    obtain ⟨k1, k2, k3, k4⟩ := hU.1 o ho hu
    have hOO := hO
    obtain ⟨-, -, pa, h3, h4, -⟩ := hOO
    obtain ⟨i1, i2, i3⟩ := h3 o ho hu
    have hS2 : xr_S (xk_up r (40 + 2 * p) d none) n := xr_S.up hS (xr_0_de p hp d hd)
    refine xk_aload_n (pc := 11) d_Task_letGo_11 rfl ?_
    refine xk_getRo (pc := 12) d_Task_letGo_12 fl_Task_23 (by first | rfl | assumption) rfl (by omega) (by omega) (hS _ _ _ (xr_st_ta _ hp) (by omega)) ?_
    refine xk_iload_n (pc := 15) d_Task_letGo_15 rfl ?_
    refine xk_null (pc := 16) d_Task_letGo_16 ?_
    refine xk_aastoreN (pc := 17) d_Task_letGo_17 hkd (by decide) (by decide) (by omega) (by omega) rfl (by omega) (by decide) ?_
    refine xk_aload_n (pc := 18) d_Task_letGo_18 rfl ?_
    refine xk_cV0 (pc := 19) d_Task_letGo_19 ml_Task_33 cz_Opening_loseHolder ⟨rfl, rfl⟩ rfl (by first | rfl | assumption) (by omega) (by omega) (Nat.le_of_ble_eq_true rfl) ⟨(Nat.le_of_ble_eq_true rfl), (Nat.le_of_ble_eq_true rfl)⟩ ?_
    have rk : xk_up r (40 + 2 * p) d none (22 + o) 4 = r (22 + o) 4 := xk_up_a (by omega)
    refine c_Opening_loseHolder hn hS2 ho (c := c) (x := nI (O.2.2.2.1 o)) hcm (by omega) i1 ?_ ?_ ?_ ?_
    · intro A hA hc0
      rw [rk] at hA
      have k0 : O.2.1 o ≠ 0 := fun z => by rw [(i2 z).1] at hA; cases hA
      have e2 := Option.some.inj ((i3 k0).symm.trans hA)
      obtain ⟨a1, a2, a3, -⟩ := h4 o ho hu k0
      rw [e2] at a1 a2 a3
      exact ⟨a1, a2, by omega⟩
    · intro hor
      have hfin : xr_O (xs_of O (6 * p + d) none) (xk_up m (22 + o) 0 (nI c)) (xk_up r (40 + 2 * p) d none) n := by
        by_cases hc0 : c = 0
        · have hn0 : r (22 + o) 4 = none := by
            rcases hor with q | q
            · exact absurd hc0 q
            · rw [rk] at q; exact q
          subst hc0
          exact xr_O_last hO hU hp hd ho e0 hc (fun a e1 _ => by funext j; exact xk_up_a e1) xk_up_s (fun A hA => by rw [hn0] at hA; cases hA)
        · exact xr_O_let hO hp hd ho e0 hc hc0
      have hfr : ∀ a, (a < 22 ∨ (38 ≤ a ∧ a < 74)) → (xk_up m (22 + o) 0 (nI c)) a = m a := fun a ha => by funext j; exact xk_up_a (by omega)
      refine xk_vret (pc := 22) rfl d_Task_letGo_22 rfl (Nat.le_of_ble_eq_true rfl) (Nat.le_of_ble_eq_true rfl) ?_
      first | exact hQ _ _ hfin hfr (fun a ha => by funext j; exact xk_up_a ha) | exact hQ m r hO (fun _ _ => rfl) (fun _ _ => rfl)
    · intro A hc0 hA hb
      rw [rk] at hA
      have k0 : O.2.1 o ≠ 0 := fun z => by rw [(i2 z).1] at hA; cases hA
      rw [(k4 k0).2.1] at hb
      have kk : O.2.1 o = 1 := by
        have := xs_bit1 (O.2.1 o) k1 k0
        have : ¬ O.2.1 o = 2 := fun q => hb (this.mpr q)
        omega
      have e2 := Option.some.inj ((i3 k0).symm.trans hA)
      have a1 := (h4 o ho hu k0).1
      rw [e2] at a1
      subst hc0
      have hfin : xr_O (xs_of O (6 * p + d) none) (xk_up (xk_up m (22 + o) 0 (nI 0)) A 3 (nI 0)) (xk_up r (40 + 2 * p) d none) n := xr_O_last hO hU hp hd ho e0 hc (fun a q1 q2 => by funext j; rw [xk_up_a (fun z => q2 (by rw [hA, z])), xk_up_a q1]) (by rw [xk_up_a (by omega), xk_up_s]) (fun B hB hB1 => by
        have e3 := Option.some.inj (hA.symm.trans hB)
        subst e3
        rw [kk]
        exact ⟨fun j hj => by rw [xk_up_k hj, xk_up_a (by omega)], xk_up_s⟩)
      have hfr : ∀ a, (a < 22 ∨ (38 ≤ a ∧ a < 74)) → (xk_up (xk_up m (22 + o) 0 (nI 0)) A 3 (nI 0)) a = m a := fun a ha => by funext j; rw [xk_up_a (by omega), xk_up_a (by omega)]
      refine xk_vret (pc := 22) rfl d_Task_letGo_22 rfl (Nat.le_of_ble_eq_true rfl) (Nat.le_of_ble_eq_true rfl) ?_
      first | exact hQ _ _ hfin hfr (fun a ha => by funext j; exact xk_up_a ha) | exact hQ m r hO (fun _ _ => rfl) (fun _ _ => rfl)
    · intro A hc0 hA hb
      rw [rk] at hA
      have k0 : O.2.1 o ≠ 0 := fun z => by rw [(i2 z).1] at hA; cases hA
      rw [(k4 k0).2.1] at hb
      have kk : O.2.1 o = 2 := (xs_bit1 (O.2.1 o) k1 k0).mp hb
      have e2 := Option.some.inj ((i3 k0).symm.trans hA)
      have a1 := (h4 o ho hu k0).1
      rw [e2] at a1
      subst hc0
      have hfin : xr_O (xs_of O (6 * p + d) none) (xk_up (xk_up m (22 + o) 0 (nI 0)) A 4 (nI 0)) (xk_up r (40 + 2 * p) d none) n := xr_O_last hO hU hp hd ho e0 hc (fun a q1 q2 => by funext j; rw [xk_up_a (fun z => q2 (by rw [hA, z])), xk_up_a q1]) (by rw [xk_up_a (by omega), xk_up_s]) (fun B hB hB1 => by
        have e3 := Option.some.inj (hA.symm.trans hB)
        subst e3
        rw [kk]
        exact ⟨fun j hj => by rw [xk_up_k hj, xk_up_a (by omega)], xk_up_s⟩)
      have hfr : ∀ a, (a < 22 ∨ (38 ≤ a ∧ a < 74)) → (xk_up (xk_up m (22 + o) 0 (nI 0)) A 4 (nI 0)) a = m a := fun a ha => by funext j; rw [xk_up_a (by omega), xk_up_a (by omega)]
      refine xk_vret (pc := 22) rfl d_Task_letGo_22 rfl (Nat.le_of_ble_eq_true rfl) (Nat.le_of_ble_eq_true rfl) ?_
      first | exact hQ _ _ hfin hfr (fun a ha => by funext j; exact xk_up_a ha) | exact hQ m r hO (fun _ _ => rfl) (fun _ _ => rfl)

/-- a process without its first d descriptors -/
def xs_baT (O : xs_O) (p d : Nat) : xs_O := (fun k => if 6 * p ≤ k ∧ k < 6 * p + d then none else O.1 k, O.2)
theorem xs_baT_0 {O : xs_O} {p : Nat} : xs_baT O p 0 = O := by
  have : (fun k => if 6 * p ≤ k ∧ k < 6 * p + 0 then none else O.1 k) = O.1 := by
    funext k
    rw [if_neg (by omega)]
  show (_, O.2) = O
  rw [this]
theorem xs_baT_s {O : xs_O} {p d : Nat} : xs_of (xs_baT O p d) (6 * p + d) none = xs_baT O p (d + 1) := by
  have : xs_u (fun k => if 6 * p ≤ k ∧ k < 6 * p + d then none else O.1 k) (6 * p + d) none = fun k => if 6 * p ≤ k ∧ k < 6 * p + (d + 1) then none else O.1 k := by
    funext k
    by_cases e : k = 6 * p + d
    · subst e
      rw [xs_u_s, if_pos ⟨by omega, by omega⟩]
    · rw [xs_u_n e]
      by_cases e2 : 6 * p ≤ k ∧ k < 6 * p + d
      · rw [if_pos e2, if_pos ⟨e2.1, by omega⟩]
      · rw [if_neg e2, if_neg (by omega)]
  exact congrArg (fun z => ((z, O.2) : xs_O)) this
theorem xs_bare_T {O : xs_O} {p : Nat} : xs_baT O p 6 = xs_bare O p := rfl
theorem xs_baT_k {O : xs_O} {p d k o : Nat} (h : (xs_baT O p d).1 k = some o) : O.1 k = some o := by
  change (if 6 * p ≤ k ∧ k < 6 * p + d then none else O.1 k) = some o at h
  split at h
  · cases h
  · exact h

set_option maxRecDepth 20000 in
set_option maxHeartbeats 4000000 in
theorem l_letGoAll {E : xk_E} {n : Nat} {Q : xk_Q} {O : xs_O} {m0 : xk_M} {r0 : xk_P} {p : Nat} (hn : 74 ≤ n) (hp : p < 7) (h16 : ∀ k o, k < 42 → O.1 k = some o → o < 16) (hQ : ∀ m' r', xr_O (xs_bare O p) m' r' n → xr_S r' n → (∀ a, (a < 22 ∨ (38 ≤ a ∧ a < 74)) → m' a = m0 a) → (∀ a, a ≠ 40 + 2 * p → r' a = r0 a) → Q none n m' r') : ∀ (k : Nat) (i : Nat) (m : xk_M) (r : xk_P), 6 - i < k → i ≤ 6 → xr_O (xs_baT O p i) m r n → xs_okU (xs_baT O p i) → xr_S r n → (∀ a, (a < 22 ∨ (38 ≤ a ∧ a < 74)) → m a = m0 a) → (∀ a, a ≠ 40 + 2 * p → r a = r0 a) → xk_W E m_Task_letGoAll 2 [some (.inr (some (39 + 2 * p))), some (.inl (nI i))] [] n m r 0 0 Q := by
  intro k
  induction k with
  | zero => intro i m r h; exact absurd h (Nat.not_lt_zero _)
  | succ k ih =>
    intro i m r hk hi hO hU hS hm hr
    have hkt := xr_kd_ta p hp
    refine xk_iload_n (pc := 2) d_Task_letGoAll_2 rfl ?_
    refine xk_bipush (pc := 3) (v := nI 6) d_Task_letGoAll_3 (by decide) ?_
    first | refine xk_icmp_geN (pc := 5) (tgt := 19) d_Task_letGoAll_5 rfl (by omega) (by omega) (fun c_5 => ?_) (fun c_5 => ?_) | refine xk_icmp_ge (pc := 5) (tgt := 19) d_Task_letGoAll_5 rfl (fun c_5 => ?_) (fun c_5 => ?_)
    · have e : i = 6 := by omega
      subst e
      refine xk_vret (pc := 19) rfl d_Task_letGoAll_19 rfl (Nat.le_of_ble_eq_true rfl) (Nat.le_of_ble_eq_true rfl) ?_
      exact hQ m r hO hS hm hr
    · refine xk_aload_n (pc := 8) d_Task_letGoAll_8 rfl ?_
      refine xk_iload_n (pc := 9) d_Task_letGoAll_9 rfl ?_
      refine xk_cV1 (pc := 10) d_Task_letGoAll_10 ml_Task_40 cz_Task_letGo ⟨rfl, rfl⟩ rfl (by first | rfl | assumption) (by omega) (by omega) (Nat.le_of_ble_eq_true rfl) ⟨(Nat.le_of_ble_eq_true rfl), (Nat.le_of_ble_eq_true rfl)⟩ ?_
      refine c_Task_letGo hn hS hp c_5 hO hU (fun k o hk h => h16 k o hk (xs_baT_k h)) (fun m1 r1 hO1 hm1 hr1 => ?_)
      have hU1 : xs_okU (xs_of (xs_baT O p i) (6 * p + i) none) := xs_okU_sub hU (xs_used_r (by omega)) rfl
      rw [xs_baT_s] at hO1 hU1
      have hS1 : xr_S r1 n := fun a k v hv ha => by
        by_cases q : a = 40 + 2 * p
        · subst q
          have hz : xr_st (40 + 2 * p) k = none := xr_0_dek p hp k
          rw [hz] at hv
          cases hv
        · rw [hr1 a q]; exact hS a k v hv ha
      refine xk_iincN (pc := 13) (d := 1) d_Task_letGoAll_13 rfl ?_
      refine xk_goto (pc := 16) (tgt := 2) d_Task_letGoAll_16 rfl ?_
      exact ih (i + 1) m1 r1 (by omega) (by omega) hO1 hU1 hS1 (fun a ha => (hm1 a ha).trans (hm a ha)) (fun a ha => (hr1 a ha).trans (hr a ha))

set_option maxRecDepth 20000 in
set_option maxHeartbeats 4000000 in
theorem c_Task_letGoAll {E : xk_E} {n : Nat} {m : xk_M} {r : xk_P} {Q : xk_Q} (hn : 74 ≤ n) (hS : xr_S r n) {p : Nat} (hp : p < 7) {O : xs_O} (hO : xr_O O m r n) (hU : xs_okU O) (h16 : ∀ k o, k < 42 → O.1 k = some o → o < 16) (hQ : ∀ m' r', xr_O (xs_bare O p) m' r' n → xr_S r' n → (∀ a, (a < 22 ∨ (38 ≤ a ∧ a < 74)) → m' a = m a) → (∀ a, a ≠ 40 + 2 * p → r' a = r a) → Q none n m' r') : xk_W E m_Task_letGoAll 0 (xk_ent m_Task_letGoAll [.inr (some (39 + 2 * p))]) [] n m r 0 0 Q := by
  show xk_W E m_Task_letGoAll 0 [some (.inr (some (39 + 2 * p))), none] [] n m r 0 0 Q
  refine xk_iconst (pc := 0) (v := nI 0) d_Task_letGoAll_0 (by decide) ?_
  refine xk_istore_n (pc := 1) d_Task_letGoAll_1 (by decide) ?_
  exact l_letGoAll hn hp h16 hQ 7 0 m r (by omega) (by omega) (by rw [xs_baT_0]; exact hO) (by rw [xs_baT_0]; exact hU) hS (fun _ _ => rfl) (fun _ _ => rfl)

set_option maxRecDepth 20000 in
set_option maxHeartbeats 4000000 in
theorem c_Task_vanish {E : xk_E} {n : Nat} {m : xk_M} {r : xk_P} {Q : xk_Q} (hn : 74 ≤ n) (hS : xr_S r n) {p : Nat} (hp : p < 7) {O : xs_O} (hO : xr_O O m r n) (hU : xs_okU O) (h16 : ∀ k o, k < 42 → O.1 k = some o → o < 16) (hQ : ∀ m' r', xr_O (xs_bare O p) m' r' n → xr_S r' n → (∀ a, (a < 22 ∨ (38 ≤ a ∧ a < 74)) → a ≠ 39 + 2 * p → m' a = m a) → (∀ k, m' (39 + 2 * p) k = if k = 0 then nI 0 else m (39 + 2 * p) k) → (∀ a, a ≠ 40 + 2 * p → r' a = r a) → Q none n m' r') : xk_W E m_Task_vanish 0 (xk_ent m_Task_vanish [.inr (some (39 + 2 * p))]) [] n m r 0 0 Q := by
  show xk_W E m_Task_vanish 0 [some (.inr (some (39 + 2 * p)))] [] n m r 0 0 Q
  have hkt := xr_kd_ta p hp
  have hkd := xr_kd_de p hp
  refine xk_aload_n (pc := 0) d_Task_vanish_0 rfl ?_
  refine xk_cV0 (pc := 1) d_Task_vanish_1 ml_Task_27 cz_Task_letGoAll ⟨rfl, rfl⟩ rfl (by first | rfl | assumption) (by omega) (by omega) (Nat.le_of_ble_eq_true rfl) ⟨(Nat.le_of_ble_eq_true rfl), (Nat.le_of_ble_eq_true rfl)⟩ ?_
  refine c_Task_letGoAll hn hS hp hO hU h16 (fun m1 r1 hO1 hS1 hm1 hr1 => ?_)
  refine xk_aload_n (pc := 4) d_Task_vanish_4 rfl ?_
  refine xk_iconst (pc := 5) (v := nI 0) d_Task_vanish_5 (by decide) ?_
  refine xk_putI (pc := 6) d_Task_vanish_6 fl_Task_11 (by first | rfl | assumption) rfl (fun q hq h => by cases hq; first | exact absurd h (by decide) | exact ⟨rfl, rfl, rfl⟩) ⟨rfl, rfl⟩ (by omega) (by omega) ?_
  refine xk_vret (pc := 9) rfl d_Task_vanish_9 rfl (Nat.le_of_ble_eq_true rfl) (Nat.le_of_ble_eq_true rfl) ?_
  refine hQ _ r1 (xr_O_kept hO1 (Nat.le_refl _) (fun a _ _ => by funext j; exact xk_up_a (by omega)) (fun a _ _ => by funext j; exact xk_up_a (by omega)) (fun _ _ _ => rfl)) hS1 (fun a ha e => by rw [← hm1 a ha]; funext j; exact xk_up_a e) (fun k => ?_) hr1
  by_cases e : k = 0
  · subst e; rw [xk_up_s, if_pos rfl]
  · rw [xk_up_k e, if_neg e, hm1 _ (by omega)]

set_option maxRecDepth 20000 in
set_option maxHeartbeats 4000000 in
theorem c_Task_finish {E : xk_E} {n : Nat} {m : xk_M} {r : xk_P} {Q : xk_Q} (hn : 74 ≤ n) (hS : xr_S r n) {p : Nat} (hp : p < 7) {x : Int32} {O : xs_O} (hO : xr_O O m r n) (hU : xs_okU O) (h16 : ∀ k o, k < 42 → O.1 k = some o → o < 16) (hQ : ∀ m' r', xr_O (xs_bare O p) m' r' n → xr_S r' n → (∀ a, (a < 22 ∨ (38 ≤ a ∧ a < 74)) → a ≠ 39 + 2 * p → m' a = m a) → (∀ k, m' (39 + 2 * p) k = if k = 0 then nI 2 else if k = 2 then x else m (39 + 2 * p) k) → (∀ a, a ≠ 40 + 2 * p → r' a = r a) → Q none n m' r') : xk_W E m_Task_finish 0 (xk_ent m_Task_finish [.inr (some (39 + 2 * p)), .inl x]) [] n m r 0 0 Q := by
  show xk_W E m_Task_finish 0 [some (.inr (some (39 + 2 * p))), some (.inl x)] [] n m r 0 0 Q
  have hkt := xr_kd_ta p hp
  have hkd := xr_kd_de p hp
  refine xk_aload_n (pc := 0) d_Task_finish_0 rfl ?_
  refine xk_cV0 (pc := 1) d_Task_finish_1 ml_Task_27 cz_Task_letGoAll ⟨rfl, rfl⟩ rfl (by first | rfl | assumption) (by omega) (by omega) (Nat.le_of_ble_eq_true rfl) ⟨(Nat.le_of_ble_eq_true rfl), (Nat.le_of_ble_eq_true rfl)⟩ ?_
  refine c_Task_letGoAll hn hS hp hO hU h16 (fun m1 r1 hO1 hS1 hm1 hr1 => ?_)
  refine xk_aload_n (pc := 4) d_Task_finish_4 rfl ?_
  refine xk_iconst (pc := 5) (v := nI 2) d_Task_finish_5 (by decide) ?_
  refine xk_putI (pc := 6) d_Task_finish_6 fl_Task_11 (by first | rfl | assumption) rfl (fun q hq h => by cases hq; first | exact absurd h (by decide) | exact ⟨rfl, rfl, rfl⟩) ⟨rfl, rfl⟩ (by omega) (by omega) ?_
  refine xk_aload_n (pc := 9) d_Task_finish_9 rfl ?_
  refine xk_iload_n (pc := 10) d_Task_finish_10 rfl ?_
  refine xk_putI (pc := 11) d_Task_finish_11 fl_Task_18 (by first | rfl | assumption) rfl (fun q hq h => by cases hq; first | exact absurd h (by decide) | exact ⟨rfl, rfl, rfl⟩) ⟨rfl, rfl⟩ (by omega) (by omega) ?_
  refine xk_vret (pc := 14) rfl d_Task_finish_14 rfl (Nat.le_of_ble_eq_true rfl) (Nat.le_of_ble_eq_true rfl) ?_
  refine hQ _ r1 (xr_O_kept hO1 (Nat.le_refl _) (fun a _ _ => by funext j; rw [xk_up_a (by omega), xk_up_a (by omega)]) (fun a _ _ => by funext j; rw [xk_up_a (by omega), xk_up_a (by omega)]) (fun _ _ _ => rfl)) hS1 (fun a ha e => by rw [← hm1 a ha]; funext j; rw [xk_up_a e, xk_up_a e]) (fun k => ?_) hr1
  by_cases e : k = 0
  · subst e; rw [xk_up_k (by decide), xk_up_s, if_pos rfl]
  · rw [if_neg e]
    by_cases e2 : k = 2
    · subst e2; rw [xk_up_s, if_pos rfl]
    · rw [xk_up_k e2, xk_up_k e, if_neg e2, hm1 _ (by omega)]
end
