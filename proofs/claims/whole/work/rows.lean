section
-- ===== PART A: goes FIRST, ahead of the names: the tables' words, and 'selects' of the private methods out of them =====
/-- a private method of a class that the tables say can be made, by its rows of tables_1 -/
def lw_okq (q : MethodName × Nat) : Prop := (q.1.cls ≠ "java/lang/invoke/MethodHandle" ∧ q.1.cls ≠ "java/lang/invoke/VarHandle") ∧ Cond.instantiable q.1.cls q.2 ∈ tables_1 ∧ Cond.privateMethod q.1 ∈ tables_1 ∧ Cond.instanceMethod q.1 ∈ tables_1
theorem lw_p0 : lw_okq (⟨"SandKernel", "isOpen", "(I)Z"⟩, 5) := ⟨⟨by decide +kernel, by decide +kernel⟩, List.mem_of_getElem? (i := 13) (by decide +kernel), List.mem_of_getElem? (i := 176) (by decide +kernel), List.mem_of_getElem? (i := 177) (by decide +kernel)⟩
theorem lw_p1 : lw_okq (⟨"SandKernel$Host", "clear", "(I)V"⟩, 6) := ⟨⟨by decide +kernel, by decide +kernel⟩, List.mem_of_getElem? (i := 21) (by decide +kernel), List.mem_of_getElem? (i := 192) (by decide +kernel), List.mem_of_getElem? (i := 193) (by decide +kernel)⟩
theorem lw_p2 : lw_okq (⟨"SandKernel", "isAlive", "(I)Z"⟩, 5) := ⟨⟨by decide +kernel, by decide +kernel⟩, List.mem_of_getElem? (i := 13) (by decide +kernel), List.mem_of_getElem? (i := 222) (by decide +kernel), List.mem_of_getElem? (i := 223) (by decide +kernel)⟩
theorem lw_p3 : lw_okq (⟨"SandKernel", "unusedFrom", "(I)I"⟩, 5) := ⟨⟨by decide +kernel, by decide +kernel⟩, List.mem_of_getElem? (i := 13) (by decide +kernel), List.mem_of_getElem? (i := 234) (by decide +kernel), List.mem_of_getElem? (i := 235) (by decide +kernel)⟩
theorem lw_p4 : lw_okq (⟨"SandKernel", "readyFile", "(II)Z"⟩, 5) := ⟨⟨by decide +kernel, by decide +kernel⟩, List.mem_of_getElem? (i := 13) (by decide +kernel), List.mem_of_getElem? (i := 238) (by decide +kernel), List.mem_of_getElem? (i := 239) (by decide +kernel)⟩
theorem lw_p5 : lw_okq (⟨"SandKernel$Host", "succeeds", "(III)Z"⟩, 6) := ⟨⟨by decide +kernel, by decide +kernel⟩, List.mem_of_getElem? (i := 21) (by decide +kernel), List.mem_of_getElem? (i := 246) (by decide +kernel), List.mem_of_getElem? (i := 247) (by decide +kernel)⟩
theorem lw_p6 : lw_okq (⟨"SandKernel", "openingOf", "(II)LSandKernel$Opening;"⟩, 5) := ⟨⟨by decide +kernel, by decide +kernel⟩, List.mem_of_getElem? (i := 13) (by decide +kernel), List.mem_of_getElem? (i := 302) (by decide +kernel), List.mem_of_getElem? (i := 303) (by decide +kernel)⟩
theorem lw_p7 : lw_okq (⟨"SandKernel", "whyNoOpening", "(II)I"⟩, 5) := ⟨⟨by decide +kernel, by decide +kernel⟩, List.mem_of_getElem? (i := 13) (by decide +kernel), List.mem_of_getElem? (i := 306) (by decide +kernel), List.mem_of_getElem? (i := 307) (by decide +kernel)⟩
theorem lw_p8 : lw_okq (⟨"SandKernel", "readFile", "(LSandKernel$Opening;)I"⟩, 5) := ⟨⟨by decide +kernel, by decide +kernel⟩, List.mem_of_getElem? (i := 13) (by decide +kernel), List.mem_of_getElem? (i := 314) (by decide +kernel), List.mem_of_getElem? (i := 315) (by decide +kernel)⟩
theorem lw_p9 : lw_okq (⟨"SandKernel$Cache", "find", "(II)I"⟩, 4) := ⟨⟨by decide +kernel, by decide +kernel⟩, List.mem_of_getElem? (i := 48) (by decide +kernel), List.mem_of_getElem? (i := 326) (by decide +kernel), List.mem_of_getElem? (i := 327) (by decide +kernel)⟩
theorem lw_p10 : lw_okq (⟨"SandKernel$Cache", "makeRoom", "()Z"⟩, 4) := ⟨⟨by decide +kernel, by decide +kernel⟩, List.mem_of_getElem? (i := 48) (by decide +kernel), List.mem_of_getElem? (i := 334) (by decide +kernel), List.mem_of_getElem? (i := 335) (by decide +kernel)⟩
theorem lw_p11 : lw_okq (⟨"SandKernel$Cache", "writeOut", "(LSandKernel$Block;)Z"⟩, 4) := ⟨⟨by decide +kernel, by decide +kernel⟩, List.mem_of_getElem? (i := 48) (by decide +kernel), List.mem_of_getElem? (i := 338) (by decide +kernel), List.mem_of_getElem? (i := 339) (by decide +kernel)⟩
theorem lw_p12 : lw_okq (⟨"SandKernel$Cache", "bringIn", "(II)Z"⟩, 4) := ⟨⟨by decide +kernel, by decide +kernel⟩, List.mem_of_getElem? (i := 48) (by decide +kernel), List.mem_of_getElem? (i := 352) (by decide +kernel), List.mem_of_getElem? (i := 353) (by decide +kernel)⟩
theorem lw_p13 : lw_okq (⟨"SandKernel", "writeFile", "(LSandKernel$Opening;I)I"⟩, 5) := ⟨⟨by decide +kernel, by decide +kernel⟩, List.mem_of_getElem? (i := 13) (by decide +kernel), List.mem_of_getElem? (i := 372) (by decide +kernel), List.mem_of_getElem? (i := 373) (by decide +kernel)⟩
theorem lw_p14 : lw_okq (⟨"SandKernel$Opening", "leavePipe", "(LSandKernel$Pipe;)V"⟩, 5) := ⟨⟨by decide +kernel, by decide +kernel⟩, List.mem_of_getElem? (i := 97) (by decide +kernel), List.mem_of_getElem? (i := 409) (by decide +kernel), List.mem_of_getElem? (i := 410) (by decide +kernel)⟩
theorem lw_p15 : lw_okq (⟨"SandKernel", "leastNotThere", "()I"⟩, 5) := ⟨⟨by decide +kernel, by decide +kernel⟩, List.mem_of_getElem? (i := 13) (by decide +kernel), List.mem_of_getElem? (i := 426) (by decide +kernel), List.mem_of_getElem? (i := 427) (by decide +kernel)⟩
def lw_privs_1 : List (MethodName × Nat) := [(⟨"SandKernel", "isOpen", "(I)Z"⟩, 5), (⟨"SandKernel$Host", "clear", "(I)V"⟩, 6), (⟨"SandKernel", "isAlive", "(I)Z"⟩, 5), (⟨"SandKernel", "unusedFrom", "(I)I"⟩, 5), (⟨"SandKernel", "readyFile", "(II)Z"⟩, 5), (⟨"SandKernel$Host", "succeeds", "(III)Z"⟩, 6), (⟨"SandKernel", "openingOf", "(II)LSandKernel$Opening;"⟩, 5), (⟨"SandKernel", "whyNoOpening", "(II)I"⟩, 5), (⟨"SandKernel", "readFile", "(LSandKernel$Opening;)I"⟩, 5), (⟨"SandKernel$Cache", "find", "(II)I"⟩, 4), (⟨"SandKernel$Cache", "makeRoom", "()Z"⟩, 4), (⟨"SandKernel$Cache", "writeOut", "(LSandKernel$Block;)Z"⟩, 4), (⟨"SandKernel$Cache", "bringIn", "(II)Z"⟩, 4), (⟨"SandKernel", "writeFile", "(LSandKernel$Opening;I)I"⟩, 5), (⟨"SandKernel$Opening", "leavePipe", "(LSandKernel$Pipe;)V"⟩, 5), (⟨"SandKernel", "leastNotThere", "()I"⟩, 5)]
theorem lw_r1 : ∀ q ∈ lw_privs_1, lw_okq q := List.forall_mem_cons.mpr ⟨lw_p0, List.forall_mem_cons.mpr ⟨lw_p1, List.forall_mem_cons.mpr ⟨lw_p2, List.forall_mem_cons.mpr ⟨lw_p3, List.forall_mem_cons.mpr ⟨lw_p4, List.forall_mem_cons.mpr ⟨lw_p5, List.forall_mem_cons.mpr ⟨lw_p6, List.forall_mem_cons.mpr ⟨lw_p7, List.forall_mem_cons.mpr ⟨lw_p8, List.forall_mem_cons.mpr ⟨lw_p9, List.forall_mem_cons.mpr ⟨lw_p10, List.forall_mem_cons.mpr ⟨lw_p11, List.forall_mem_cons.mpr ⟨lw_p12, List.forall_mem_cons.mpr ⟨lw_p13, List.forall_mem_cons.mpr ⟨lw_p14, List.forall_mem_cons.mpr ⟨lw_p15, fun _ h => absurd h List.not_mem_nil⟩⟩⟩⟩⟩⟩⟩⟩⟩⟩⟩⟩⟩⟩⟩⟩
theorem lw_p16 : lw_okq (⟨"SandKernel$Task", "letGoAll", "()V"⟩, 4) := ⟨⟨by decide +kernel, by decide +kernel⟩, List.mem_of_getElem? (i := 125) (by decide +kernel), List.mem_of_getElem? (i := 443) (by decide +kernel), List.mem_of_getElem? (i := 444) (by decide +kernel)⟩
theorem lw_p17 : lw_okq (⟨"SandKernel", "openingsThere", "()I"⟩, 5) := ⟨⟨by decide +kernel, by decide +kernel⟩, List.mem_of_getElem? (i := 13) (by decide +kernel), List.mem_of_getElem? (i := 514) (by decide +kernel), List.mem_of_getElem? (i := 515) (by decide +kernel)⟩
theorem lw_p18 : lw_okq (⟨"SandKernel", "tasksThere", "()I"⟩, 5) := ⟨⟨by decide +kernel, by decide +kernel⟩, List.mem_of_getElem? (i := 13) (by decide +kernel), List.mem_of_getElem? (i := 518) (by decide +kernel), List.mem_of_getElem? (i := 519) (by decide +kernel)⟩
theorem lw_p19 : lw_okq (⟨"SandKernelModel", "reborn", "()V"⟩, 23) := ⟨⟨by decide +kernel, by decide +kernel⟩, List.mem_of_getElem? (i := 530) (by decide +kernel), List.mem_of_getElem? (i := 536) (by decide +kernel), List.mem_of_getElem? (i := 537) (by decide +kernel)⟩
theorem lw_p20 : lw_okq (⟨"SandKernelModel", "openFile", "(I)Z"⟩, 23) := ⟨⟨by decide +kernel, by decide +kernel⟩, List.mem_of_getElem? (i := 530) (by decide +kernel), List.mem_of_getElem? (i := 617) (by decide +kernel), List.mem_of_getElem? (i := 618) (by decide +kernel)⟩
theorem lw_p21 : lw_okq (⟨"SandKernelModel", "used", "(I)Z"⟩, 23) := ⟨⟨by decide +kernel, by decide +kernel⟩, List.mem_of_getElem? (i := 530) (by decide +kernel), List.mem_of_getElem? (i := 621) (by decide +kernel), List.mem_of_getElem? (i := 622) (by decide +kernel)⟩
theorem lw_p22 : lw_okq (⟨"SandKernelModel", "wipeHost", "(I)V"⟩, 23) := ⟨⟨by decide +kernel, by decide +kernel⟩, List.mem_of_getElem? (i := 530) (by decide +kernel), List.mem_of_getElem? (i := 625) (by decide +kernel), List.mem_of_getElem? (i := 626) (by decide +kernel)⟩
theorem lw_p23 : lw_okq (⟨"SandKernelModel", "alive", "(I)Z"⟩, 23) := ⟨⟨by decide +kernel, by decide +kernel⟩, List.mem_of_getElem? (i := 530) (by decide +kernel), List.mem_of_getElem? (i := 641) (by decide +kernel), List.mem_of_getElem? (i := 642) (by decide +kernel)⟩
theorem lw_p24 : lw_okq (⟨"SandKernelModel", "free", "(II)I"⟩, 23) := ⟨⟨by decide +kernel, by decide +kernel⟩, List.mem_of_getElem? (i := 530) (by decide +kernel), List.mem_of_getElem? (i := 645) (by decide +kernel), List.mem_of_getElem? (i := 646) (by decide +kernel)⟩
theorem lw_p25 : lw_okq (⟨"SandKernelModel", "openings", "()I"⟩, 23) := ⟨⟨by decide +kernel, by decide +kernel⟩, List.mem_of_getElem? (i := 530) (by decide +kernel), List.mem_of_getElem? (i := 649) (by decide +kernel), List.mem_of_getElem? (i := 650) (by decide +kernel)⟩
theorem lw_p26 : lw_okq (⟨"SandKernelModel", "operate", "(III)Z"⟩, 23) := ⟨⟨by decide +kernel, by decide +kernel⟩, List.mem_of_getElem? (i := 530) (by decide +kernel), List.mem_of_getElem? (i := 653) (by decide +kernel), List.mem_of_getElem? (i := 654) (by decide +kernel)⟩
theorem lw_p27 : lw_okq (⟨"SandKernelModel", "forget", "(I)V"⟩, 23) := ⟨⟨by decide +kernel, by decide +kernel⟩, List.mem_of_getElem? (i := 530) (by decide +kernel), List.mem_of_getElem? (i := 657) (by decide +kernel), List.mem_of_getElem? (i := 658) (by decide +kernel)⟩
theorem lw_p28 : lw_okq (⟨"SandKernelModel", "newOpening", "(III)I"⟩, 23) := ⟨⟨by decide +kernel, by decide +kernel⟩, List.mem_of_getElem? (i := 530) (by decide +kernel), List.mem_of_getElem? (i := 661) (by decide +kernel), List.mem_of_getElem? (i := 662) (by decide +kernel)⟩
theorem lw_p29 : lw_okq (⟨"SandKernelModel", "hasEnd", "(II)Z"⟩, 23) := ⟨⟨by decide +kernel, by decide +kernel⟩, List.mem_of_getElem? (i := 530) (by decide +kernel), List.mem_of_getElem? (i := 669) (by decide +kernel), List.mem_of_getElem? (i := 670) (by decide +kernel)⟩
theorem lw_p30 : lw_okq (⟨"SandKernelModel", "opening", "(II)I"⟩, 23) := ⟨⟨by decide +kernel, by decide +kernel⟩, List.mem_of_getElem? (i := 530) (by decide +kernel), List.mem_of_getElem? (i := 677) (by decide +kernel), List.mem_of_getElem? (i := 678) (by decide +kernel)⟩
theorem lw_p31 : lw_okq (⟨"SandKernelModel", "get", "(II)Z"⟩, 23) := ⟨⟨by decide +kernel, by decide +kernel⟩, List.mem_of_getElem? (i := 530) (by decide +kernel), List.mem_of_getElem? (i := 681) (by decide +kernel), List.mem_of_getElem? (i := 682) (by decide +kernel)⟩
def lw_privs_2 : List (MethodName × Nat) := [(⟨"SandKernel$Task", "letGoAll", "()V"⟩, 4), (⟨"SandKernel", "openingsThere", "()I"⟩, 5), (⟨"SandKernel", "tasksThere", "()I"⟩, 5), (⟨"SandKernelModel", "reborn", "()V"⟩, 23), (⟨"SandKernelModel", "openFile", "(I)Z"⟩, 23), (⟨"SandKernelModel", "used", "(I)Z"⟩, 23), (⟨"SandKernelModel", "wipeHost", "(I)V"⟩, 23), (⟨"SandKernelModel", "alive", "(I)Z"⟩, 23), (⟨"SandKernelModel", "free", "(II)I"⟩, 23), (⟨"SandKernelModel", "openings", "()I"⟩, 23), (⟨"SandKernelModel", "operate", "(III)Z"⟩, 23), (⟨"SandKernelModel", "forget", "(I)V"⟩, 23), (⟨"SandKernelModel", "newOpening", "(III)I"⟩, 23), (⟨"SandKernelModel", "hasEnd", "(II)Z"⟩, 23), (⟨"SandKernelModel", "opening", "(II)I"⟩, 23), (⟨"SandKernelModel", "get", "(II)Z"⟩, 23)]
theorem lw_r2 : ∀ q ∈ lw_privs_2, lw_okq q := List.forall_mem_cons.mpr ⟨lw_p16, List.forall_mem_cons.mpr ⟨lw_p17, List.forall_mem_cons.mpr ⟨lw_p18, List.forall_mem_cons.mpr ⟨lw_p19, List.forall_mem_cons.mpr ⟨lw_p20, List.forall_mem_cons.mpr ⟨lw_p21, List.forall_mem_cons.mpr ⟨lw_p22, List.forall_mem_cons.mpr ⟨lw_p23, List.forall_mem_cons.mpr ⟨lw_p24, List.forall_mem_cons.mpr ⟨lw_p25, List.forall_mem_cons.mpr ⟨lw_p26, List.forall_mem_cons.mpr ⟨lw_p27, List.forall_mem_cons.mpr ⟨lw_p28, List.forall_mem_cons.mpr ⟨lw_p29, List.forall_mem_cons.mpr ⟨lw_p30, List.forall_mem_cons.mpr ⟨lw_p31, fun _ h => absurd h List.not_mem_nil⟩⟩⟩⟩⟩⟩⟩⟩⟩⟩⟩⟩⟩⟩⟩⟩
theorem lw_p32 : lw_okq (⟨"SandKernelModel", "toFront", "(I)V"⟩, 23) := ⟨⟨by decide +kernel, by decide +kernel⟩, List.mem_of_getElem? (i := 530) (by decide +kernel), List.mem_of_getElem? (i := 685) (by decide +kernel), List.mem_of_getElem? (i := 686) (by decide +kernel)⟩
theorem lw_p33 : lw_okq (⟨"SandKernelModel", "writeBack", "(I)Z"⟩, 23) := ⟨⟨by decide +kernel, by decide +kernel⟩, List.mem_of_getElem? (i := 530) (by decide +kernel), List.mem_of_getElem? (i := 689) (by decide +kernel), List.mem_of_getElem? (i := 690) (by decide +kernel)⟩
def lw_privs_3 : List (MethodName × Nat) := [(⟨"SandKernelModel", "toFront", "(I)V"⟩, 23), (⟨"SandKernelModel", "writeBack", "(I)Z"⟩, 23)]
theorem lw_r3 : ∀ q ∈ lw_privs_3, lw_okq q := List.forall_mem_cons.mpr ⟨lw_p32, List.forall_mem_cons.mpr ⟨lw_p33, fun _ h => absurd h List.not_mem_nil⟩⟩
def lw_privs : List (MethodName × Nat) := lw_privs_1 ++ (lw_privs_2 ++ (lw_privs_3))
def lw_tbl : List Cond := k2_sels lw_privs ++ tables_1
theorem lw_privs_ok : ∀ q ∈ lw_privs, lw_okq q := by
  show ∀ q ∈ lw_privs_1 ++ (lw_privs_2 ++ (lw_privs_3)), lw_okq q
  exact List.forall_mem_append.mpr ⟨lw_r1, List.forall_mem_append.mpr ⟨lw_r2, lw_r3⟩⟩
-- ===== end of PART A; then your names; then what follows =====
/-! THE CLAIM OUT OF ONE WALK OF THE LAW'S BODY. Your part is whole_start (and what it stands on); all else here is the same for every law, but numbers. -/
def R_law : String := "SandKernelLaw"
def lw_P (b : Addr) (xs : List Int32) (args : Array Value) (s : State) : Prop := args = #[.ref b] ∧ s.IntsAt b xs ∧ xs.length ≤ 2048 ∧ (Jvm.Cond.and given_1 narrow_1).before args s = true
def lw_Q (_ : Array Value) (s : State) (o : Outcome) (t : State) : Prop := o = .returned (some (.int 1)) ∧ Framed s o t [] 600000 7302250
def lw_Z (below : List Frame) (a : Array Value) (s : State) : State → Prop := fun t => ∃ o, t.status = .running ∧ Ended t below o ∧ lw_Q a s o t
/-- the law's own end, with 1 on the stack, nothing written that was there before, its room as the claim has it -/
theorem lw_ret {p : Program} {l : Launch} {e : Env} {s : State} {m : MethodId} {below : List Frame} {meth : Method} {c : Code} {b : Nat} (hx : p.tables.exec = Jvm.exec) (hb : c.code = code) (hr : meth.sig.returnType = ret) (hlocks : meth.locks = false) {pc : Nat} {H : Heap} {ls : Array Slot} (hdg : decode code pc = .ok (.ireturn, 1)) : W p l e room_1 s m #[Value.ref b] below meth c H [] 600000 7302250 (lw_Z below #[Value.ref b] s) (F0 m pc ls [.int 1]) := by
  intro T hT X
  obtain ⟨fs, hret, hrun, hended, hW, hframe⟩ := X.leave (v := some (.int 1)) (hlocks := hlocks) (fun h => by rw [hr] at h; cases h)
  have hmeth' : T.vm.method? m = some meth := X.method'
  refine ⟨T.setFrames fs, ?_, .returned (some (.int 1)), hrun, hended, rfl, ⟨_, rfl⟩, hW, hframe⟩
  jvm_step X.here [X.here.top, hx, hb, hdg, hmeth', hr, ret, narrow_b1]
  (try refine ⟨rfl, ?_⟩); (try refine ⟨rfl, ?_⟩)
  first | (intro acts; rw [hret _ acts rfl rfl rfl]) | rw [hret _ _ rfl rfl rfl]
  exact Steps.refl _
/-- what holds at the law's entry: the machine, the code, the tables' words (any of lw_tbl by 'hts w (by decide +kernel)'), the script of L ints xs at the cell b, what the Statement gives of the start (any of its parts by flat_of_before) -/
def lw_At (p : Program) (s : State) (m : MethodId) (meth : Method) (c : Code) (b L : Nat) (xs : Nat → Int32) : Prop :=
  p.tables.exec = Jvm.exec ∧ c.code = code ∧ meth.sig.returnType = ret ∧ c.maxLocals = 4 ∧ s.vm.findClass R_law = some m.cls ∧ (∀ w ∈ lw_tbl, w.before #[Value.ref b] s = true) ∧ va_X b L xs s s.heap ∧ b < s.heap.size ∧ meth.locks = false ∧ (Jvm.Cond.and given_1 narrow_1).before #[Value.ref b] s = true
end
section
/-! the types of the small machine -/
abbrev xk_V : Type := Int32 ⊕ Option Nat
abbrev xk_M : Type := Nat → Nat → Int32
abbrev xk_P : Type := Nat → Nat → Option Nat
/-- class numbers and slots; array classes; base; the script's address, cell, length, ints -/
abbrev xk_E : Type := va_G × (Nat → ClassId) × Nat × Nat × Cell × Nat × (Nat → Int32)
abbrev xk_Q : Type := Option xk_V → Nat → xk_M → xk_P → Prop
/-- a method: whether it is the law; name, code, locals, what it returns, room -/
abbrev xk_Y : Type := Bool × MethodName × ByteArray × Nat × Option FieldType × Room
def xk_N (y : xk_Y) : MethodName := y.2.1
def xk_B (y : xk_Y) : ByteArray := y.2.2.1
def xk_L (y : xk_Y) : Nat := y.2.2.2.1
def xk_ret (y : xk_Y) : Option FieldType := y.2.2.2.2.1
def xk_Rm (y : xk_Y) : Room := y.2.2.2.2.2
def xk_ad (E : xk_E) (a : Nat) : Nat := if a = 0 then E.2.2.2.1 else E.2.2.1 + a
def xk_v (E : xk_E) (v : xk_V) : Value := match v with
  | .inl x => .int x
  | .inr none => .null
  | .inr (some a) => .ref (xk_ad E a)
def xk_isN (w : Cond) : Bool := match w with
  | .fieldLinkNest .. => true
  | .methodLinkNest .. => true
  | _ => false
end
section
/-! tables of the small machine, by program -/
def R_Block : String := "SandKernel$Block"
def F_Block : u_T := fun k => match k with
  | 0 => ("SandKernel$Block", "file", "I", false)
  | 1 => ("SandKernel$Block", "number", "I", false)
  | 2 => ("SandKernel$Block", "dirty", "Z", false)
  | _ => ("SandKernel$Block", "cells", "[I", true)
def t_Block : Nat → FieldType := fun k => match k with
  | 0 => .int
  | 1 => .int
  | 2 => .boolean
  | _ => .array .int
def R_Cache : String := "SandKernel$Cache"
def F_Cache : u_T := fun k => match k with
  | 0 => ("SandKernel$Cache", "disk", "LSandKernel$Host;", true)
  | 1 => ("SandKernel$Cache", "lengths", "[I", true)
  | 2 => ("SandKernel$Cache", "blocks", "[LSandKernel$Block;", true)
  | _ => ("SandKernel$Cache", "size", "I", false)
def t_Cache : Nat → FieldType := fun k => match k with
  | 0 => .object "SandKernel$Host"
  | 1 => .array .int
  | 2 => .array (.object "SandKernel$Block")
  | _ => .int
def R_Host : String := "SandKernel$Host"
def F_Host : u_T := fun k => match k with
  | 0 => ("SandKernel$Host", "there", "[Z", true)
  | 1 => ("SandKernel$Host", "lengths", "[I", true)
  | 2 => ("SandKernel$Host", "cells", "[I", true)
  | 3 => ("SandKernel$Host", "entries", "[I", true)
  | 4 => ("SandKernel$Host", "operations", "I", false)
  | _ => ("SandKernel$Host", "leftToFail", "I", false)
def t_Host : Nat → FieldType := fun k => match k with
  | 0 => .array .boolean
  | 1 => .array .int
  | 2 => .array .int
  | 3 => .array .int
  | 4 => .int
  | _ => .int
def R_Opening : String := "SandKernel$Opening"
def F_Opening : u_T := fun k => match k with
  | 0 => ("SandKernel$Opening", "holders", "I", false)
  | 1 => ("SandKernel$Opening", "mode", "I", false)
  | 2 => ("SandKernel$Opening", "file", "I", false)
  | 3 => ("SandKernel$Opening", "position", "I", false)
  | _ => ("SandKernel$Opening", "pipe", "LSandKernel$Pipe;", false)
def t_Opening : Nat → FieldType := fun k => match k with
  | 0 => .int
  | 1 => .int
  | 2 => .int
  | 3 => .int
  | _ => .object "SandKernel$Pipe"
def R_Pipe : String := "SandKernel$Pipe"
def F_Pipe : u_T := fun k => match k with
  | 0 => ("SandKernel$Pipe", "cells", "[I", true)
  | 1 => ("SandKernel$Pipe", "oldest", "I", false)
  | 2 => ("SandKernel$Pipe", "held", "I", false)
  | 3 => ("SandKernel$Pipe", "hasReader", "Z", false)
  | _ => ("SandKernel$Pipe", "hasWriter", "Z", false)
def t_Pipe : Nat → FieldType := fun k => match k with
  | 0 => .array .int
  | 1 => .int
  | 2 => .int
  | 3 => .boolean
  | _ => .boolean
def R_Task : String := "SandKernel$Task"
def F_Task : u_T := fun k => match k with
  | 0 => ("SandKernel$Task", "state", "I", false)
  | 1 => ("SandKernel$Task", "parent", "I", false)
  | 2 => ("SandKernel$Task", "code", "I", false)
  | _ => ("SandKernel$Task", "descriptors", "[LSandKernel$Opening;", true)
def t_Task : Nat → FieldType := fun k => match k with
  | 0 => .int
  | 1 => .int
  | 2 => .int
  | _ => .array (.object "SandKernel$Opening")
def R_K : String := "SandKernel"
def F_K : u_T := fun k => match k with
  | 0 => ("SandKernel", "disk", "LSandKernel$Host;", true)
  | 1 => ("SandKernel", "cache", "LSandKernel$Cache;", true)
  | 2 => ("SandKernel", "policies", "[I", true)
  | 3 => ("SandKernel", "openings", "[LSandKernel$Opening;", true)
  | _ => ("SandKernel", "tasks", "[LSandKernel$Task;", true)
def t_K : Nat → FieldType := fun k => match k with
  | 0 => .object "SandKernel$Host"
  | 1 => .object "SandKernel$Cache"
  | 2 => .array .int
  | 3 => .array (.object "SandKernel$Opening")
  | _ => .array (.object "SandKernel$Task")
def R_M : String := "SandKernelModel"
def F_M : u_T := fun k => match k with
  | 0 => ("SandKernelModel", "there", "[Z", true)
  | 1 => ("SandKernelModel", "hostLength", "[I", true)
  | 2 => ("SandKernelModel", "hostCell", "[I", true)
  | 3 => ("SandKernelModel", "length", "[I", true)
  | 4 => ("SandKernelModel", "policy", "[I", true)
  | 5 => ("SandKernelModel", "name", "[I", true)
  | 6 => ("SandKernelModel", "dirty", "[Z", true)
  | 7 => ("SandKernelModel", "cells", "[I", true)
  | 8 => ("SandKernelModel", "cached", "I", false)
  | 9 => ("SandKernelModel", "present", "[Z", true)
  | 10 => ("SandKernelModel", "ended", "[Z", true)
  | 11 => ("SandKernelModel", "parent", "[I", true)
  | 12 => ("SandKernelModel", "code", "[I", true)
  | 13 => ("SandKernelModel", "of", "[I", true)
  | 14 => ("SandKernelModel", "kind", "[I", true)
  | 15 => ("SandKernelModel", "what", "[I", true)
  | 16 => ("SandKernelModel", "mode", "[I", true)
  | 17 => ("SandKernelModel", "position", "[I", true)
  | 18 => ("SandKernelModel", "pipeCell", "[I", true)
  | 19 => ("SandKernelModel", "pipeSize", "[I", true)
  | 20 => ("SandKernelModel", "toFail", "I", false)
  | 21 => ("SandKernelModel", "operations", "I", false)
  | _ => ("SandKernelModel", "log", "[I", true)
def t_M : Nat → FieldType := fun k => match k with
  | 0 => .array .boolean
  | 1 => .array .int
  | 2 => .array .int
  | 3 => .array .int
  | 4 => .array .int
  | 5 => .array .int
  | 6 => .array .boolean
  | 7 => .array .int
  | 8 => .int
  | 9 => .array .boolean
  | 10 => .array .boolean
  | 11 => .array .int
  | 12 => .array .int
  | 13 => .array .int
  | 14 => .array .int
  | 15 => .array .int
  | 16 => .array .int
  | 17 => .array .int
  | 18 => .array .int
  | 19 => .array .int
  | 20 => .int
  | 21 => .int
  | _ => .array .int
abbrev xk_cl : List vw_C := [(R_Block, F_Block, 4), (R_Cache, F_Cache, 4), (R_Host, F_Host, 6), (R_Opening, F_Opening, 5), (R_Pipe, F_Pipe, 5), (R_Task, F_Task, 4), (R_K, F_K, 5), (R_M, F_M, 23)]
def xk_ty (ci : Nat) : Nat → FieldType := match ci with
  | 0 => t_Block
  | 1 => t_Cache
  | 2 => t_Host
  | 3 => t_Opening
  | 4 => t_Pipe
  | 5 => t_Task
  | 6 => t_K
  | _ => t_M
def xk_rf (ci k : Nat) : Bool := match ci with
  | 0 => Nat.beq k 3
  | 1 => Nat.beq k 0 || Nat.beq k 1 || Nat.beq k 2
  | 2 => Nat.beq k 0 || Nat.beq k 1 || Nat.beq k 2 || Nat.beq k 3
  | 3 => Nat.beq k 4
  | 4 => Nat.beq k 0
  | 5 => Nat.beq k 3
  | 6 => Nat.beq k 0 || Nat.beq k 1 || Nat.beq k 2 || Nat.beq k 3 || Nat.beq k 4
  | _ => !(Nat.beq k 8 || Nat.beq k 20 || Nat.beq k 21)
def xk_aty (t : Nat) : FieldType := match t with
  | 0 => .int
  | 1 => .boolean
  | 2 => .object "SandKernel$Block"
  | 3 => .object "SandKernel$Opening"
  | _ => .object "SandKernel$Task"
def xk_ao : List String := ["SandKernel$Block", "SandKernel$Opening", "SandKernel$Task"]
/-- what the cell of a number is: an object of a class, or an array of a kind and a length -/
def xk_kd (a : Nat) : Nat ⊕ (Nat × Nat) := bif Nat.blt a 74 then (bif Nat.blt a 37 then (bif Nat.blt a 18 then (bif Nat.blt a 9 then (bif Nat.blt a 4 then (bif Nat.blt a 2 then (bif Nat.blt a 1 then (.inr (0, 0)) else (.inl 6)) else (bif Nat.blt a 3 then (.inl 2) else (.inr (1, 8)))) else (bif Nat.blt a 6 then (bif Nat.blt a 5 then (.inr (0, 8)) else (.inr (0, 256))) else (bif Nat.blt a 7 then (.inr (0, 16)) else (bif Nat.blt a 8 then (.inl 1) else (.inr (0, 8)))))) else (bif Nat.blt a 13 then (bif Nat.blt a 11 then (bif Nat.blt a 10 then (.inr (2, 5)) else (.inl 0)) else (bif Nat.blt a 12 then (.inr (0, 8)) else (.inl 0))) else (bif Nat.blt a 15 then (bif Nat.blt a 14 then (.inr (0, 8)) else (.inl 0)) else (bif Nat.blt a 16 then (.inr (0, 8)) else (bif Nat.blt a 17 then (.inl 0) else (.inr (0, 8))))))) else (bif Nat.blt a 27 then (bif Nat.blt a 22 then (bif Nat.blt a 20 then (bif Nat.blt a 19 then (.inl 0) else (.inr (0, 8))) else (bif Nat.blt a 21 then (.inr (0, 8)) else (.inr (3, 16)))) else (bif Nat.blt a 24 then (bif Nat.blt a 23 then (.inl 3) else (.inl 3)) else (bif Nat.blt a 25 then (.inl 3) else (bif Nat.blt a 26 then (.inl 3) else (.inl 3))))) else (bif Nat.blt a 32 then (bif Nat.blt a 29 then (bif Nat.blt a 28 then (.inl 3) else (.inl 3)) else (bif Nat.blt a 30 then (.inl 3) else (bif Nat.blt a 31 then (.inl 3) else (.inl 3)))) else (bif Nat.blt a 34 then (bif Nat.blt a 33 then (.inl 3) else (.inl 3)) else (bif Nat.blt a 35 then (.inl 3) else (bif Nat.blt a 36 then (.inl 3) else (.inl 3))))))) else (bif Nat.blt a 55 then (bif Nat.blt a 46 then (bif Nat.blt a 41 then (bif Nat.blt a 39 then (bif Nat.blt a 38 then (.inl 3) else (.inr (4, 7))) else (bif Nat.blt a 40 then (.inl 5) else (.inr (3, 6)))) else (bif Nat.blt a 43 then (bif Nat.blt a 42 then (.inl 5) else (.inr (3, 6))) else (bif Nat.blt a 44 then (.inl 5) else (bif Nat.blt a 45 then (.inr (3, 6)) else (.inl 5))))) else (bif Nat.blt a 50 then (bif Nat.blt a 48 then (bif Nat.blt a 47 then (.inr (3, 6)) else (.inl 5)) else (bif Nat.blt a 49 then (.inr (3, 6)) else (.inl 5))) else (bif Nat.blt a 52 then (bif Nat.blt a 51 then (.inr (3, 6)) else (.inl 5)) else (bif Nat.blt a 53 then (.inr (3, 6)) else (bif Nat.blt a 54 then (.inl 7) else (.inr (1, 8))))))) else (bif Nat.blt a 64 then (bif Nat.blt a 59 then (bif Nat.blt a 57 then (bif Nat.blt a 56 then (.inr (0, 8)) else (.inr (0, 256))) else (bif Nat.blt a 58 then (.inr (0, 8)) else (.inr (0, 8)))) else (bif Nat.blt a 61 then (bif Nat.blt a 60 then (.inr (0, 6)) else (.inr (1, 6))) else (bif Nat.blt a 62 then (.inr (0, 48)) else (bif Nat.blt a 63 then (.inr (1, 7)) else (.inr (1, 7)))))) else (bif Nat.blt a 69 then (bif Nat.blt a 66 then (bif Nat.blt a 65 then (.inr (0, 7)) else (.inr (0, 7))) else (bif Nat.blt a 67 then (.inr (0, 42)) else (bif Nat.blt a 68 then (.inr (0, 16)) else (.inr (0, 16))))) else (bif Nat.blt a 71 then (bif Nat.blt a 70 then (.inr (0, 16)) else (.inr (0, 16))) else (bif Nat.blt a 72 then (.inr (0, 64)) else (bif Nat.blt a 73 then (.inr (0, 16)) else (.inr (0, 16))))))))) else (bif Nat.beq (a % 2) 0 then .inl 4 else .inr (0, 4))
def xk_nw : List Cond := [.fieldLinkNest "SandKernel$Cache" 30 "SandKernel$Block" "file" "I" "SandKernel", .fieldLinkNest "SandKernel$Cache" 75 "SandKernel$Block" "number" "I" "SandKernel", .fieldLinkNest "SandKernel$Cache" 33 "SandKernel$Block" "dirty" "Z" "SandKernel", .fieldLinkNest "SandKernel" 246 "SandKernel$Block" "dirty" "Z" "SandKernel", .fieldLinkNest "SandKernel$Cache" 62 "SandKernel$Block" "cells" "[I" "SandKernel", .fieldLinkNest "SandKernel" 243 "SandKernel$Block" "cells" "[I" "SandKernel", .fieldLinkNest "SandKernel$Task" 30 "SandKernel$Opening" "holders" "I" "SandKernel", .fieldLinkNest "SandKernel" 230 "SandKernel$Opening" "holders" "I" "SandKernel", .fieldLinkNest "SandKernel" 135 "SandKernel$Opening" "file" "I" "SandKernel", .fieldLinkNest "SandKernel" 142 "SandKernel$Opening" "position" "I" "SandKernel", .fieldLinkNest "SandKernel" 116 "SandKernel$Opening" "pipe" "LSandKernel$Pipe;" "SandKernel", .fieldLinkNest "SandKernel" 173 "SandKernel$Task" "state" "I" "SandKernel", .fieldLinkNest "SandKernel" 170 "SandKernel$Task" "parent" "I" "SandKernel", .fieldLinkNest "SandKernel" 179 "SandKernel$Task" "code" "I" "SandKernel", .fieldLinkNest "SandKernel" 224 "SandKernel$Task" "descriptors" "[LSandKernel$Opening;" "SandKernel", .fieldLinkNest "SandKernel$Opening" 36 "SandKernel$Pipe" "hasReader" "Z" "SandKernel", .fieldLinkNest "SandKernel$Opening" 42 "SandKernel$Pipe" "hasWriter" "Z" "SandKernel", .methodLinkNest "SandKernel" 9 ⟨"SandKernel$Host", "<init>", "()V"⟩ "SandKernel", .methodLinkNest "SandKernel$Cache" 29 ⟨"SandKernel$Block", "<init>", "()V"⟩ "SandKernel", .methodLinkNest "SandKernel" 41 ⟨"SandKernel$Opening", "<init>", "()V"⟩ "SandKernel", .methodLinkNest "SandKernel" 48 ⟨"SandKernel$Task", "<init>", "()V"⟩ "SandKernel", .methodLinkNest "SandKernel" 100 ⟨"SandKernel$Pipe", "<init>", "()V"⟩ "SandKernel"]
def xk_nwi : List Nat := [95, 97, 99, 100, 102, 103, 137, 138, 141, 143, 145, 166, 168, 170, 172, 313, 315, 56, 90, 132, 160, 305]
def m_K_init : xk_Y := (false, ⟨"SandKernel", "<init>", "()V"⟩, prog_1_method_1_code, 2, none, { frames := 3, cells := 51, slots := 1000, locals := 102 })
def m_Host_init : xk_Y := (false, ⟨"SandKernel$Host", "<init>", "()V"⟩, prog_4_method_1_code, 1, none, { frames := 1, cells := 4, slots := 288, locals := 60 })
def m_Cache_init : xk_Y := (false, ⟨"SandKernel$Cache", "<init>", "(LSandKernel$Host;)V"⟩, prog_3_method_1_code, 3, none, { frames := 2, cells := 12, slots := 200, locals := 80 })
def m_Block_init : xk_Y := (false, ⟨"SandKernel$Block", "<init>", "()V"⟩, prog_2_method_1_code, 1, none, { frames := 1, cells := 1, slots := 8, locals := 60 })
def m_Arr_fill2 : xk_Y := (false, ⟨"java/util/Arrays", "fill", "([II)V"⟩, prog_12_method_103_code, 4, none, { frames := 1, cells := 0, slots := 0, locals := 21 })
def m_Opening_init : xk_Y := (false, ⟨"SandKernel$Opening", "<init>", "()V"⟩, prog_5_method_1_code, 1, none, { frames := 1, cells := 0, slots := 0, locals := 60 })
def m_Task_init : xk_Y := (false, ⟨"SandKernel$Task", "<init>", "()V"⟩, prog_7_method_1_code, 1, none, { frames := 1, cells := 1, slots := 6, locals := 60 })
def m_Task_begin : xk_Y := (false, ⟨"SandKernel$Task", "begin", "(I)V"⟩, prog_7_method_2_code, 2, none, { frames := 1, cells := 0, slots := 0, locals := 21 })
def m_K_put : xk_Y := (false, ⟨"SandKernel", "put", "(III)I"⟩, prog_1_method_2_code, 4, some .int, { frames := 5, cells := 0, slots := 0, locals := 151 })
def m_K_isBelow : xk_Y := (false, ⟨"SandKernel", "isBelow", "(II)Z"⟩, prog_1_method_22_code, 2, some .boolean, { frames := 1, cells := 0, slots := 0, locals := 21 })
def m_K_isOpen : xk_Y := (false, ⟨"SandKernel", "isOpen", "(I)Z"⟩, prog_1_method_26_code, 3, some .boolean, { frames := 2, cells := 0, slots := 0, locals := 42 })
def m_Opening_isOfFile : xk_Y := (false, ⟨"SandKernel$Opening", "isOfFile", "(I)Z"⟩, prog_5_method_5_code, 2, some .boolean, { frames := 1, cells := 0, slots := 0, locals := 21 })
def m_Cache_holdsFile : xk_Y := (false, ⟨"SandKernel$Cache", "holdsFile", "(I)Z"⟩, prog_3_method_6_code, 3, some .boolean, { frames := 1, cells := 0, slots := 0, locals := 21 })
def m_Host_place : xk_Y := (false, ⟨"SandKernel$Host", "place", "(III)V"⟩, prog_4_method_9_code, 5, none, { frames := 4, cells := 0, slots := 0, locals := 127 })
def m_Host_clear : xk_Y := (false, ⟨"SandKernel$Host", "clear", "(I)V"⟩, prog_4_method_15_code, 2, none, { frames := 3, cells := 0, slots := 0, locals := 106 })
def m_Arr_fill4 : xk_Y := (false, ⟨"java/util/Arrays", "fill", "([IIII)V"⟩, prog_12_method_104_code, 5, none, { frames := 2, cells := 0, slots := 0, locals := 82 })
def m_Arr_rangeCheck : xk_Y := (false, ⟨"java/util/Arrays", "rangeCheck", "(III)V"⟩, prog_12_method_30_code, 3, none, { frames := 1, cells := 0, slots := 0, locals := 60 })
def m_Cache_setLength : xk_Y := (false, ⟨"SandKernel$Cache", "setLength", "(II)V"⟩, prog_3_method_3_code, 3, none, { frames := 1, cells := 0, slots := 0, locals := 21 })
def m_K_policy : xk_Y := (false, ⟨"SandKernel", "policy", "(II)I"⟩, prog_1_method_3_code, 3, some .int, { frames := 2, cells := 0, slots := 0, locals := 42 })
def m_K_failing : xk_Y := (false, ⟨"SandKernel", "failing", "(I)I"⟩, prog_1_method_4_code, 2, some .int, { frames := 2, cells := 0, slots := 0, locals := 42 })
def m_Host_setToFail : xk_Y := (false, ⟨"SandKernel$Host", "setToFail", "(I)V"⟩, prog_4_method_8_code, 2, none, { frames := 1, cells := 0, slots := 0, locals := 21 })
def m_K_open : xk_Y := (false, ⟨"SandKernel", "open", "(III)I"⟩, prog_1_method_5_code, 7, some .int, { frames := 6, cells := 0, slots := 0, locals := 170 })
def m_K_isAlive : xk_Y := (false, ⟨"SandKernel", "isAlive", "(I)Z"⟩, prog_1_method_23_code, 2, some .boolean, { frames := 2, cells := 0, slots := 0, locals := 42 })
def m_Host_isThere : xk_Y := (false, ⟨"SandKernel$Host", "isThere", "(I)Z"⟩, prog_4_method_2_code, 2, some .boolean, { frames := 1, cells := 0, slots := 0, locals := 21 })
def m_Task_freeFrom : xk_Y := (false, ⟨"SandKernel$Task", "freeFrom", "(I)I"⟩, prog_7_method_6_code, 3, some .int, { frames := 1, cells := 0, slots := 0, locals := 21 })
def m_K_unusedFrom : xk_Y := (false, ⟨"SandKernel", "unusedFrom", "(I)I"⟩, prog_1_method_27_code, 3, some .int, { frames := 1, cells := 0, slots := 0, locals := 21 })
def m_K_readyFile : xk_Y := (false, ⟨"SandKernel", "readyFile", "(II)Z"⟩, prog_1_method_31_code, 3, some .boolean, { frames := 5, cells := 0, slots := 0, locals := 148 })
def m_Host_makeFile : xk_Y := (false, ⟨"SandKernel$Host", "makeFile", "(I)Z"⟩, prog_4_method_10_code, 2, some .boolean, { frames := 4, cells := 0, slots := 0, locals := 127 })
def m_Host_succeeds : xk_Y := (false, ⟨"SandKernel$Host", "succeeds", "(III)Z"⟩, prog_4_method_16_code, 6, some .boolean, { frames := 1, cells := 0, slots := 0, locals := 21 })
def m_Host_emptyFile : xk_Y := (false, ⟨"SandKernel$Host", "emptyFile", "(I)Z"⟩, prog_4_method_11_code, 2, some .boolean, { frames := 4, cells := 0, slots := 0, locals := 127 })
def m_Cache_dropFile : xk_Y := (false, ⟨"SandKernel$Cache", "dropFile", "(I)V"⟩, prog_3_method_10_code, 5, none, { frames := 1, cells := 0, slots := 0, locals := 21 })
def m_Opening_becomeFile : xk_Y := (false, ⟨"SandKernel$Opening", "becomeFile", "(II)V"⟩, prog_5_method_2_code, 3, none, { frames := 1, cells := 0, slots := 0, locals := 21 })
def m_Task_hold : xk_Y := (false, ⟨"SandKernel$Task", "hold", "(ILSandKernel$Opening;)V"⟩, prog_7_method_7_code, 3, none, { frames := 1, cells := 0, slots := 0, locals := 21 })
def m_K_pipe : xk_Y := (false, ⟨"SandKernel", "pipe", "(I)I"⟩, prog_1_method_6_code, 8, some .int, { frames := 3, cells := 2, slots := 10, locals := 80 })
def m_Pipe_init : xk_Y := (false, ⟨"SandKernel$Pipe", "<init>", "()V"⟩, prog_6_method_1_code, 1, none, { frames := 1, cells := 1, slots := 4, locals := 60 })
def m_Opening_becomePipeEnd : xk_Y := (false, ⟨"SandKernel$Opening", "becomePipeEnd", "(LSandKernel$Pipe;I)V"⟩, prog_5_method_3_code, 3, none, { frames := 1, cells := 0, slots := 0, locals := 21 })
def m_K_read : xk_Y := (false, ⟨"SandKernel", "read", "(II)I"⟩, prog_1_method_7_code, 5, some .int, { frames := 7, cells := 0, slots := 0, locals := 177 })
def m_K_openingOf : xk_Y := (false, ⟨"SandKernel", "openingOf", "(II)LSandKernel$Opening;"⟩, prog_1_method_24_code, 3, some (.object "SandKernel$Opening"), { frames := 3, cells := 0, slots := 0, locals := 63 })
def m_K_whyNoOpening : xk_Y := (false, ⟨"SandKernel", "whyNoOpening", "(II)I"⟩, prog_1_method_25_code, 3, some .int, { frames := 3, cells := 0, slots := 0, locals := 63 })
def m_Opening_may : xk_Y := (false, ⟨"SandKernel$Opening", "may", "(I)Z"⟩, prog_5_method_4_code, 2, some .boolean, { frames := 1, cells := 0, slots := 0, locals := 21 })
def m_K_readFile : xk_Y := (false, ⟨"SandKernel", "readFile", "(LSandKernel$Opening;)I"⟩, prog_1_method_32_code, 4, some .int, { frames := 6, cells := 0, slots := 0, locals := 154 })
def m_Cache_lengthOf : xk_Y := (false, ⟨"SandKernel$Cache", "lengthOf", "(I)I"⟩, prog_3_method_2_code, 2, some .int, { frames := 1, cells := 0, slots := 0, locals := 21 })
def m_Cache_getBlock : xk_Y := (false, ⟨"SandKernel$Cache", "getBlock", "(II)LSandKernel$Block;"⟩, prog_3_method_8_code, 6, some (.object "SandKernel$Block"), { frames := 5, cells := 0, slots := 0, locals := 129 })
def m_Cache_find : xk_Y := (false, ⟨"SandKernel$Cache", "find", "(II)I"⟩, prog_3_method_12_code, 4, some .int, { frames := 2, cells := 0, slots := 0, locals := 43 })
def m_Block_isOf : xk_Y := (false, ⟨"SandKernel$Block", "isOf", "(II)Z"⟩, prog_2_method_2_code, 3, some .boolean, { frames := 1, cells := 0, slots := 0, locals := 21 })
def m_Cache_makeRoom : xk_Y := (false, ⟨"SandKernel$Cache", "makeRoom", "()Z"⟩, prog_3_method_13_code, 2, some .boolean, { frames := 4, cells := 0, slots := 0, locals := 108 })
def m_Cache_writeOut : xk_Y := (false, ⟨"SandKernel$Cache", "writeOut", "(LSandKernel$Block;)Z"⟩, prog_3_method_15_code, 2, some .boolean, { frames := 3, cells := 0, slots := 0, locals := 87 })
def m_Host_writeBlock : xk_Y := (false, ⟨"SandKernel$Host", "writeBlock", "(II[II)Z"⟩, prog_4_method_14_code, 8, some .boolean, { frames := 2, cells := 0, slots := 0, locals := 60 })
def m_Cache_bringIn : xk_Y := (false, ⟨"SandKernel$Cache", "bringIn", "(II)Z"⟩, prog_3_method_14_code, 4, some .boolean, { frames := 3, cells := 0, slots := 0, locals := 84 })
def m_Host_readBlock : xk_Y := (false, ⟨"SandKernel$Host", "readBlock", "(II[I)Z"⟩, prog_4_method_13_code, 5, some .boolean, { frames := 2, cells := 0, slots := 0, locals := 60 })
def m_Pipe_takeCell : xk_Y := (false, ⟨"SandKernel$Pipe", "takeCell", "()I"⟩, prog_6_method_2_code, 2, some .int, { frames := 1, cells := 0, slots := 0, locals := 21 })
def m_K_write : xk_Y := (false, ⟨"SandKernel", "write", "(III)I"⟩, prog_1_method_8_code, 6, some .int, { frames := 7, cells := 0, slots := 0, locals := 179 })
def m_K_writeFile : xk_Y := (false, ⟨"SandKernel", "writeFile", "(LSandKernel$Opening;I)I"⟩, prog_1_method_33_code, 6, some .int, { frames := 6, cells := 0, slots := 0, locals := 154 })
def m_Pipe_addCell : xk_Y := (false, ⟨"SandKernel$Pipe", "addCell", "(I)I"⟩, prog_6_method_3_code, 2, some .int, { frames := 1, cells := 0, slots := 0, locals := 21 })
def m_K_seek : xk_Y := (false, ⟨"SandKernel", "seek", "(III)I"⟩, prog_1_method_9_code, 5, some .int, { frames := 4, cells := 0, slots := 0, locals := 85 })
def m_K_sync : xk_Y := (false, ⟨"SandKernel", "sync", "(II)I"⟩, prog_1_method_10_code, 4, some .int, { frames := 5, cells := 0, slots := 0, locals := 132 })
def m_Cache_writeFileOut : xk_Y := (false, ⟨"SandKernel$Cache", "writeFileOut", "(I)I"⟩, prog_3_method_9_code, 5, some .int, { frames := 4, cells := 0, slots := 0, locals := 108 })
def m_K_dup : xk_Y := (false, ⟨"SandKernel", "dup", "(II)I"⟩, prog_1_method_11_code, 5, some .int, { frames := 4, cells := 0, slots := 0, locals := 85 })
def m_K_close : xk_Y := (false, ⟨"SandKernel", "close", "(II)I"⟩, prog_1_method_12_code, 3, some .int, { frames := 5, cells := 0, slots := 0, locals := 105 })
def m_Task_letGo : xk_Y := (false, ⟨"SandKernel$Task", "letGo", "(I)V"⟩, prog_7_method_8_code, 3, none, { frames := 4, cells := 0, slots := 0, locals := 83 })
def m_Opening_loseHolder : xk_Y := (false, ⟨"SandKernel$Opening", "loseHolder", "()V"⟩, prog_5_method_6_code, 1, none, { frames := 3, cells := 0, slots := 0, locals := 63 })
def m_Opening_leavePipe : xk_Y := (false, ⟨"SandKernel$Opening", "leavePipe", "(LSandKernel$Pipe;)V"⟩, prog_5_method_7_code, 2, none, { frames := 2, cells := 0, slots := 0, locals := 42 })
def m_K_unlink : xk_Y := (false, ⟨"SandKernel", "unlink", "(II)I"⟩, prog_1_method_13_code, 3, some .int, { frames := 3, cells := 0, slots := 0, locals := 67 })
def m_Host_removeFile : xk_Y := (false, ⟨"SandKernel$Host", "removeFile", "(I)Z"⟩, prog_4_method_12_code, 2, some .boolean, { frames := 2, cells := 0, slots := 0, locals := 46 })
def m_K_fork : xk_Y := (false, ⟨"SandKernel", "fork", "(I)I"⟩, prog_1_method_14_code, 3, some .int, { frames := 3, cells := 0, slots := 0, locals := 66 })
def m_K_leastNotThere : xk_Y := (false, ⟨"SandKernel", "leastNotThere", "()I"⟩, prog_1_method_29_code, 2, some .int, { frames := 1, cells := 0, slots := 0, locals := 21 })
def m_Task_shareAllOf : xk_Y := (false, ⟨"SandKernel$Task", "shareAllOf", "(LSandKernel$Task;)V"⟩, prog_7_method_9_code, 4, none, { frames := 2, cells := 0, slots := 0, locals := 43 })
def m_K_exit : xk_Y := (false, ⟨"SandKernel", "exit", "(II)I"⟩, prog_1_method_15_code, 4, some .int, { frames := 7, cells := 0, slots := 0, locals := 147 })
def m_Task_finish : xk_Y := (false, ⟨"SandKernel$Task", "finish", "(I)V"⟩, prog_7_method_3_code, 2, none, { frames := 6, cells := 0, slots := 0, locals := 126 })
def m_Task_letGoAll : xk_Y := (false, ⟨"SandKernel$Task", "letGoAll", "()V"⟩, prog_7_method_10_code, 2, none, { frames := 5, cells := 0, slots := 0, locals := 105 })
def m_Task_isChildOf : xk_Y := (false, ⟨"SandKernel$Task", "isChildOf", "(I)Z"⟩, prog_7_method_5_code, 2, some .boolean, { frames := 1, cells := 0, slots := 0, locals := 21 })
def m_K_wait : xk_Y := (false, ⟨"SandKernel", "wait", "(I)I"⟩, prog_1_method_16_code, 5, some .int, { frames := 7, cells := 0, slots := 0, locals := 146 })
def m_Task_vanish : xk_Y := (false, ⟨"SandKernel$Task", "vanish", "()V"⟩, prog_7_method_4_code, 1, none, { frames := 6, cells := 0, slots := 0, locals := 126 })
def m_K_crash : xk_Y := (false, ⟨"SandKernel", "crash", "()I"⟩, prog_1_method_17_code, 2, some .int, { frames := 7, cells := 0, slots := 0, locals := 146 })
def m_Cache_startAnew : xk_Y := (false, ⟨"SandKernel$Cache", "startAnew", "()V"⟩, prog_3_method_11_code, 2, none, { frames := 2, cells := 0, slots := 0, locals := 42 })
def m_Host_lengthOf : xk_Y := (false, ⟨"SandKernel$Host", "lengthOf", "(I)I"⟩, prog_4_method_3_code, 2, some .int, { frames := 1, cells := 0, slots := 0, locals := 21 })
def m_K_host : xk_Y := (false, ⟨"SandKernel", "host", "(II)I"⟩, prog_1_method_18_code, 3, some .int, { frames := 2, cells := 0, slots := 0, locals := 43 })
def m_Host_cellAt : xk_Y := (false, ⟨"SandKernel$Host", "cellAt", "(II)I"⟩, prog_4_method_4_code, 3, some .int, { frames := 1, cells := 0, slots := 0, locals := 21 })
def m_K_log : xk_Y := (false, ⟨"SandKernel", "log", "(I)I"⟩, prog_1_method_19_code, 2, some .int, { frames := 2, cells := 0, slots := 0, locals := 60 })
def m_Host_operations : xk_Y := (false, ⟨"SandKernel$Host", "operations", "()I"⟩, prog_4_method_5_code, 1, some .int, { frames := 1, cells := 0, slots := 0, locals := 21 })
def m_Host_entryAt : xk_Y := (false, ⟨"SandKernel$Host", "entryAt", "(I)I"⟩, prog_4_method_6_code, 2, some .int, { frames := 1, cells := 0, slots := 0, locals := 21 })
def m_K_cached : xk_Y := (false, ⟨"SandKernel", "cached", "(I)I"⟩, prog_1_method_20_code, 2, some .int, { frames := 2, cells := 0, slots := 0, locals := 42 })
def m_Cache_size : xk_Y := (false, ⟨"SandKernel$Cache", "size", "()I"⟩, prog_3_method_4_code, 1, some .int, { frames := 1, cells := 0, slots := 0, locals := 21 })
def m_Cache_blockAt : xk_Y := (false, ⟨"SandKernel$Cache", "blockAt", "(I)LSandKernel$Block;"⟩, prog_3_method_5_code, 2, some (.object "SandKernel$Block"), { frames := 1, cells := 0, slots := 0, locals := 21 })
def m_Block_describe : xk_Y := (false, ⟨"SandKernel$Block", "describe", "()I"⟩, prog_2_method_3_code, 1, some .int, { frames := 1, cells := 0, slots := 0, locals := 21 })
def m_K_count : xk_Y := (false, ⟨"SandKernel", "count", "(I)I"⟩, prog_1_method_21_code, 2, some .int, { frames := 2, cells := 0, slots := 0, locals := 43 })
def m_K_openingsThere : xk_Y := (false, ⟨"SandKernel", "openingsThere", "()I"⟩, prog_1_method_28_code, 3, some .int, { frames := 1, cells := 0, slots := 0, locals := 21 })
def m_K_tasksThere : xk_Y := (false, ⟨"SandKernel", "tasksThere", "()I"⟩, prog_1_method_30_code, 3, some .int, { frames := 1, cells := 0, slots := 0, locals := 21 })
def m_Cache_dirtyBlocks : xk_Y := (false, ⟨"SandKernel$Cache", "dirtyBlocks", "()I"⟩, prog_3_method_7_code, 3, some .int, { frames := 1, cells := 0, slots := 0, locals := 21 })
def m_Host_leftToFail : xk_Y := (false, ⟨"SandKernel$Host", "leftToFail", "()I"⟩, prog_4_method_7_code, 1, some .int, { frames := 1, cells := 0, slots := 0, locals := 21 })
def m_M_init : xk_Y := (false, ⟨"SandKernelModel", "<init>", "()V"⟩, prog_9_method_1_code, 2, none, { frames := 2, cells := 20, slots := 1000, locals := 60 })
def m_M_reborn : xk_Y := (false, ⟨"SandKernelModel", "reborn", "()V"⟩, prog_9_method_2_code, 2, none, { frames := 1, cells := 0, slots := 0, locals := 21 })
def m_M_put : xk_Y := (false, ⟨"SandKernelModel", "put", "(III)I"⟩, prog_9_method_18_code, 6, some .int, { frames := 3, cells := 0, slots := 0, locals := 65 })
def m_M_in : xk_Y := (false, ⟨"SandKernelModel", "in", "(III)Z"⟩, prog_9_method_3_code, 3, some .boolean, { frames := 1, cells := 0, slots := 0, locals := 21 })
def m_M_openFile : xk_Y := (false, ⟨"SandKernelModel", "openFile", "(I)Z"⟩, prog_9_method_7_code, 3, some .boolean, { frames := 2, cells := 0, slots := 0, locals := 43 })
def m_M_used : xk_Y := (false, ⟨"SandKernelModel", "used", "(I)Z"⟩, prog_9_method_5_code, 3, some .boolean, { frames := 1, cells := 0, slots := 0, locals := 21 })
def m_M_wipeHost : xk_Y := (false, ⟨"SandKernelModel", "wipeHost", "(I)V"⟩, prog_9_method_14_code, 3, none, { frames := 1, cells := 0, slots := 0, locals := 21 })
def m_M_policy : xk_Y := (false, ⟨"SandKernelModel", "policy", "(II)I"⟩, prog_9_method_19_code, 3, some .int, { frames := 2, cells := 0, slots := 0, locals := 43 })
def m_M_failing : xk_Y := (false, ⟨"SandKernelModel", "failing", "(I)I"⟩, prog_9_method_20_code, 2, some .int, { frames := 2, cells := 0, slots := 0, locals := 43 })
def m_M_open : xk_Y := (false, ⟨"SandKernelModel", "open", "(III)I"⟩, prog_9_method_21_code, 5, some .int, { frames := 3, cells := 0, slots := 0, locals := 67 })
def m_M_alive : xk_Y := (false, ⟨"SandKernelModel", "alive", "(I)Z"⟩, prog_9_method_4_code, 2, some .boolean, { frames := 2, cells := 0, slots := 0, locals := 43 })
def m_M_free : xk_Y := (false, ⟨"SandKernelModel", "free", "(II)I"⟩, prog_9_method_9_code, 4, some .int, { frames := 1, cells := 0, slots := 0, locals := 21 })
def m_M_openings : xk_Y := (false, ⟨"SandKernelModel", "openings", "()I"⟩, prog_9_method_6_code, 3, some .int, { frames := 2, cells := 0, slots := 0, locals := 43 })
def m_M_operate : xk_Y := (false, ⟨"SandKernelModel", "operate", "(III)Z"⟩, prog_9_method_12_code, 6, some .boolean, { frames := 1, cells := 0, slots := 0, locals := 21 })
def m_M_forget : xk_Y := (false, ⟨"SandKernelModel", "forget", "(I)V"⟩, prog_9_method_17_code, 5, none, { frames := 1, cells := 0, slots := 0, locals := 21 })
def m_M_newOpening : xk_Y := (false, ⟨"SandKernelModel", "newOpening", "(III)I"⟩, prog_9_method_10_code, 5, some .int, { frames := 2, cells := 0, slots := 0, locals := 43 })
def m_M_pipe : xk_Y := (false, ⟨"SandKernelModel", "pipe", "(I)I"⟩, prog_9_method_22_code, 5, some .int, { frames := 3, cells := 0, slots := 0, locals := 67 })
def m_M_hasEnd : xk_Y := (false, ⟨"SandKernelModel", "hasEnd", "(II)Z"⟩, prog_9_method_8_code, 4, some .boolean, { frames := 2, cells := 0, slots := 0, locals := 43 })
def m_M_read : xk_Y := (false, ⟨"SandKernelModel", "read", "(II)I"⟩, prog_9_method_23_code, 7, some .int, { frames := 4, cells := 0, slots := 0, locals := 96 })
def m_M_opening : xk_Y := (false, ⟨"SandKernelModel", "opening", "(II)I"⟩, prog_9_method_11_code, 3, some .int, { frames := 3, cells := 0, slots := 0, locals := 64 })
def m_M_get : xk_Y := (false, ⟨"SandKernelModel", "get", "(II)Z"⟩, prog_9_method_16_code, 6, some .boolean, { frames := 3, cells := 0, slots := 0, locals := 71 })
def m_M_toFront : xk_Y := (false, ⟨"SandKernelModel", "toFront", "(I)V"⟩, prog_9_method_15_code, 6, none, { frames := 1, cells := 0, slots := 0, locals := 21 })
def m_M_writeBack : xk_Y := (false, ⟨"SandKernelModel", "writeBack", "(I)Z"⟩, prog_9_method_13_code, 6, some .boolean, { frames := 2, cells := 0, slots := 0, locals := 46 })
def m_M_write : xk_Y := (false, ⟨"SandKernelModel", "write", "(III)I"⟩, prog_9_method_24_code, 7, some .int, { frames := 4, cells := 0, slots := 0, locals := 96 })
def m_M_seek : xk_Y := (false, ⟨"SandKernelModel", "seek", "(III)I"⟩, prog_9_method_25_code, 5, some .int, { frames := 4, cells := 0, slots := 0, locals := 86 })
def m_M_sync : xk_Y := (false, ⟨"SandKernelModel", "sync", "(II)I"⟩, prog_9_method_26_code, 7, some .int, { frames := 4, cells := 0, slots := 0, locals := 86 })
def m_M_dup : xk_Y := (false, ⟨"SandKernelModel", "dup", "(II)I"⟩, prog_9_method_27_code, 5, some .int, { frames := 4, cells := 0, slots := 0, locals := 86 })
def m_M_close : xk_Y := (false, ⟨"SandKernelModel", "close", "(II)I"⟩, prog_9_method_28_code, 4, some .int, { frames := 4, cells := 0, slots := 0, locals := 86 })
def m_M_unlink : xk_Y := (false, ⟨"SandKernelModel", "unlink", "(II)I"⟩, prog_9_method_29_code, 3, some .int, { frames := 3, cells := 0, slots := 0, locals := 65 })
def m_M_fork : xk_Y := (false, ⟨"SandKernelModel", "fork", "(I)I"⟩, prog_9_method_30_code, 4, some .int, { frames := 3, cells := 0, slots := 0, locals := 64 })
def m_M_exit : xk_Y := (false, ⟨"SandKernelModel", "exit", "(II)I"⟩, prog_9_method_31_code, 4, some .int, { frames := 3, cells := 0, slots := 0, locals := 64 })
def m_M_wait : xk_Y := (false, ⟨"SandKernelModel", "wait", "(I)I"⟩, prog_9_method_32_code, 4, some .int, { frames := 3, cells := 0, slots := 0, locals := 64 })
def m_M_crash : xk_Y := (false, ⟨"SandKernelModel", "crash", "()I"⟩, prog_9_method_33_code, 2, some .int, { frames := 2, cells := 0, slots := 0, locals := 42 })
def m_M_host : xk_Y := (false, ⟨"SandKernelModel", "host", "(II)I"⟩, prog_9_method_34_code, 3, some .int, { frames := 2, cells := 0, slots := 0, locals := 43 })
def m_M_log : xk_Y := (false, ⟨"SandKernelModel", "log", "(I)I"⟩, prog_9_method_35_code, 2, some .int, { frames := 2, cells := 0, slots := 0, locals := 43 })
def m_M_cached : xk_Y := (false, ⟨"SandKernelModel", "cached", "(I)I"⟩, prog_9_method_36_code, 2, some .int, { frames := 1, cells := 0, slots := 0, locals := 21 })
def m_M_count : xk_Y := (false, ⟨"SandKernelModel", "count", "(I)I"⟩, prog_9_method_37_code, 5, some .int, { frames := 3, cells := 0, slots := 0, locals := 65 })
def m_law : xk_Y := (true, x, code, 4, ret, room_1)
end
section
/-! A small machine over the kit's walk W: values are ints or references by number; memory is two functions, ints and references, by cell number and place. -/
def xk_cls (y : xk_Y) : String := (xk_N y).cls
/-- the contents of a place as a value -/
def xk_f (E : xk_E) (b : Bool) (m : xk_M) (r : xk_P) (a k : Nat) : Value := if b = true then xk_v E (.inr (r a k)) else .int (m a k)
theorem xk_f_i {E : xk_E} {m : xk_M} {r : xk_P} {a k : Nat} : xk_f E false m r a k = .int (m a k) := rfl
theorem xk_f_r {E : xk_E} {m : xk_M} {r : xk_P} {a k : Nat} : xk_f E true m r a k = xk_v E (.inr (r a k)) := rfl
theorem xk_cat (E : xk_E) (v : xk_V) : (xk_v E v).category = 1 := by
  rcases v with x | _ | a <;> rfl
def xk_cell (E : xk_E) (m : xk_M) (r : xk_P) (a : Nat) (H : Heap) : Prop := match xk_kd a with
  | .inl ci => ∃ q : vw_C, xk_cl[ci]? = some q ∧ t_OB (xk_ad E a) (E.1.1 ci) q.2.2 (E.1.2 ci) H (fun k => xk_f E (xk_rf ci k) m r a k)
  | .inr tn => H[xk_ad E a]? = some (arrV (E.2.1 tn.1) tn.2 (fun j => xk_f E (decide (2 ≤ tn.1)) m r a j))
def xk_R (E : xk_E) (n : Nat) (m : xk_M) (r : xk_P) (H : Heap) : Prop :=
  1 ≤ n ∧ H.size = E.2.2.1 + n ∧ (∀ a, 1 ≤ a → a < n → xk_cell E m r a H) ∧ (H[E.2.2.2.1]? = some E.2.2.2.2.1 ∧ E.2.2.2.1 ≤ E.2.2.1) ∧ ∀ a, n ≤ a → ∀ k, m a k = 0 ∧ r a k = none
def xk_fr (E : xk_E) : Addr → Prop := fun q => E.2.2.1 < q
def xk_tys (E : xk_E) : List (ClassId × FieldType) := [(E.2.1 0, xk_aty 0), (E.2.1 1, xk_aty 1), (E.2.1 2, xk_aty 2), (E.2.1 3, xk_aty 3), (E.2.1 4, xk_aty 4)]
def xk_scr (E : xk_E) (s : State) : Prop := s.isArrayOf E.2.2.2.2.1 .int ∧ E.2.2.2.2.1.vm ≠ .unknown ∧ E.2.2.2.2.1.slots.size = E.2.2.2.2.2.1 ∧ ∀ j : Nat, j < E.2.2.2.2.2.1 → E.2.2.2.2.1.slots[j]? = some (.int (E.2.2.2.2.2.2 j))
def xk_K (E : xk_E) (s : State) : Prop := va_K E.1 xk_cl (xk_tys E) s ∧ xk_scr E s ∧ (∀ w ∈ xk_nw, va_Nw w s) ∧ ∀ C ∈ xk_ao, va_AO C s
theorem xk_nw_ok : ∀ w ∈ xk_nw, xk_isN w = true := by decide +kernel
theorem xk_K.warm {E : xk_E} {s U : State} (hW : s.WarmedH U.vm) (h : xk_K E s) : xk_K E U := by
  obtain ⟨h1, ⟨s1, s2⟩, h3, h4⟩ := h
  refine ⟨va_K.moved hW.alike h1, ⟨State.isArrayOf_alike hW.alike s1, s2⟩, fun w hw => ?_, fun C hC => va_AO.moved hW.alike (h4 C hC)⟩
  have hn := xk_nw_ok w hw
  have hv := h3 w hw
  cases w <;> first | exact va_Nw.warmF hW hv | exact va_Nw.warmM hW hv | (exfalso; revert hn; simp [xk_isN])
theorem xk_K.same {E : xk_E} {s U : State} (h : xk_K E s) (hvm : s.vm = U.vm) : xk_K E U := by
  obtain ⟨h1, ⟨s1, s2⟩, h3, h4⟩ := h
  have hA : s.vm.Alike U.vm := hvm ▸ Vm.Alike.refl s.vm
  refine ⟨va_K.moved hA h1, ⟨State.isArrayOf_alike hA s1, s2⟩, fun w hw => ?_, fun C hC => va_AO.moved hA (h4 C hC)⟩
  have hn := xk_nw_ok w hw
  have hv := h3 w hw
  cases w <;> first | exact va_Nw.same rfl hvm hv | (exfalso; revert hn; simp [xk_isN])
def xk_good (w : Cond) : Bool := (w.onTables && w.keeps) || (match w with | .arrayClass _ => true | _ => false)
def xk_kt : List Cond := lw_tbl.filter xk_good
theorem xk_in {w : Cond} (h : w ∈ lw_tbl) (hg : xk_good w = true) : w ∈ xk_kt := List.mem_filter.mpr ⟨h, hg⟩
theorem xk_kt_good : ∀ w ∈ xk_kt, (w.onTables && w.keeps) = true ∨ ∃ ty, w = .arrayClass ty := by
  intro w hw
  have h := (List.mem_filter.mp hw).2
  unfold xk_good at h
  rw [Bool.or_eq_true] at h
  rcases h with h | h
  · exact Or.inl h
  · cases w <;> first | exact Or.inr ⟨_, rfl⟩ | (exfalso; revert h; simp)
/-! the classes' words -/
theorem xi_Block : ∀ w ∈ u_ws R_Block F_Block 4, w ∈ lw_tbl := by decide +kernel
theorem xg_Block : ∀ w ∈ u_ws R_Block F_Block 4, xk_good w = true := by decide +kernel
theorem xt_Block : ∀ k, k < 4 → parseFieldDescriptor (F_Block k).2.2.1 = some (t_Block k) := by decide +kernel
theorem xn_Block : ∀ a, a < 4 → ∀ b, b < 4 → a ≠ b → (F_Block a).2.1 ≠ (F_Block b).2.1 := by decide +kernel
theorem xi_Cache : ∀ w ∈ u_ws R_Cache F_Cache 4, w ∈ lw_tbl := by decide +kernel
theorem xg_Cache : ∀ w ∈ u_ws R_Cache F_Cache 4, xk_good w = true := by decide +kernel
theorem xt_Cache : ∀ k, k < 4 → parseFieldDescriptor (F_Cache k).2.2.1 = some (t_Cache k) := by decide +kernel
theorem xn_Cache : ∀ a, a < 4 → ∀ b, b < 4 → a ≠ b → (F_Cache a).2.1 ≠ (F_Cache b).2.1 := by decide +kernel
theorem xi_Host : ∀ w ∈ u_ws R_Host F_Host 6, w ∈ lw_tbl := by decide +kernel
theorem xg_Host : ∀ w ∈ u_ws R_Host F_Host 6, xk_good w = true := by decide +kernel
theorem xt_Host : ∀ k, k < 6 → parseFieldDescriptor (F_Host k).2.2.1 = some (t_Host k) := by decide +kernel
theorem xn_Host : ∀ a, a < 6 → ∀ b, b < 6 → a ≠ b → (F_Host a).2.1 ≠ (F_Host b).2.1 := by decide +kernel
theorem xi_Opening : ∀ w ∈ u_ws R_Opening F_Opening 5, w ∈ lw_tbl := by decide +kernel
theorem xg_Opening : ∀ w ∈ u_ws R_Opening F_Opening 5, xk_good w = true := by decide +kernel
theorem xt_Opening : ∀ k, k < 5 → parseFieldDescriptor (F_Opening k).2.2.1 = some (t_Opening k) := by decide +kernel
theorem xn_Opening : ∀ a, a < 5 → ∀ b, b < 5 → a ≠ b → (F_Opening a).2.1 ≠ (F_Opening b).2.1 := by decide +kernel
theorem xi_Pipe : ∀ w ∈ u_ws R_Pipe F_Pipe 5, w ∈ lw_tbl := by decide +kernel
theorem xg_Pipe : ∀ w ∈ u_ws R_Pipe F_Pipe 5, xk_good w = true := by decide +kernel
theorem xt_Pipe : ∀ k, k < 5 → parseFieldDescriptor (F_Pipe k).2.2.1 = some (t_Pipe k) := by decide +kernel
theorem xn_Pipe : ∀ a, a < 5 → ∀ b, b < 5 → a ≠ b → (F_Pipe a).2.1 ≠ (F_Pipe b).2.1 := by decide +kernel
theorem xi_Task : ∀ w ∈ u_ws R_Task F_Task 4, w ∈ lw_tbl := by decide +kernel
theorem xg_Task : ∀ w ∈ u_ws R_Task F_Task 4, xk_good w = true := by decide +kernel
theorem xt_Task : ∀ k, k < 4 → parseFieldDescriptor (F_Task k).2.2.1 = some (t_Task k) := by decide +kernel
theorem xn_Task : ∀ a, a < 4 → ∀ b, b < 4 → a ≠ b → (F_Task a).2.1 ≠ (F_Task b).2.1 := by decide +kernel
theorem xi_K : ∀ w ∈ u_ws R_K F_K 5, w ∈ lw_tbl := by decide +kernel
theorem xg_K : ∀ w ∈ u_ws R_K F_K 5, xk_good w = true := by decide +kernel
theorem xt_K : ∀ k, k < 5 → parseFieldDescriptor (F_K k).2.2.1 = some (t_K k) := by decide +kernel
theorem xn_K : ∀ a, a < 5 → ∀ b, b < 5 → a ≠ b → (F_K a).2.1 ≠ (F_K b).2.1 := by decide +kernel
theorem xi_M : ∀ w ∈ u_ws R_M F_M 23, w ∈ lw_tbl := by decide +kernel
theorem xg_M : ∀ w ∈ u_ws R_M F_M 23, xk_good w = true := by decide +kernel
theorem xt_M : ∀ k, k < 23 → parseFieldDescriptor (F_M k).2.2.1 = some (t_M k) := by decide +kernel
theorem xn_M : ∀ a, a < 23 → ∀ b, b < 23 → a ≠ b → (F_M a).2.1 ≠ (F_M b).2.1 := by decide +kernel
theorem xk_clall : ∀ (ci : Nat) (q : vw_C), xk_cl[ci]? = some q → (∀ w ∈ u_ws q.1 q.2.1 q.2.2, w ∈ xk_kt) ∧ (∀ k, k < q.2.2 → parseFieldDescriptor (q.2.1 k).2.2.1 = some (xk_ty ci k)) ∧ ∀ a, a < q.2.2 → ∀ b, b < q.2.2 → a ≠ b → (q.2.1 a).2.1 ≠ (q.2.1 b).2.1 := by
  intro ci q h
  match ci, h with
  | 0, h => cases h; exact ⟨fun w hw => xk_in (xi_Block w hw) (xg_Block w hw), xt_Block, xn_Block⟩
  | 1, h => cases h; exact ⟨fun w hw => xk_in (xi_Cache w hw) (xg_Cache w hw), xt_Cache, xn_Cache⟩
  | 2, h => cases h; exact ⟨fun w hw => xk_in (xi_Host w hw) (xg_Host w hw), xt_Host, xn_Host⟩
  | 3, h => cases h; exact ⟨fun w hw => xk_in (xi_Opening w hw) (xg_Opening w hw), xt_Opening, xn_Opening⟩
  | 4, h => cases h; exact ⟨fun w hw => xk_in (xi_Pipe w hw) (xg_Pipe w hw), xt_Pipe, xn_Pipe⟩
  | 5, h => cases h; exact ⟨fun w hw => xk_in (xi_Task w hw) (xg_Task w hw), xt_Task, xn_Task⟩
  | 6, h => cases h; exact ⟨fun w hw => xk_in (xi_K w hw) (xg_K w hw), xt_K, xn_K⟩
  | 7, h => cases h; exact ⟨fun w hw => xk_in (xi_M w hw) (xg_M w hw), xt_M, xn_M⟩
  | k + 8, h => simp [xk_cl] at h
def xk_ws (y : xk_Y) : List Cond := .code (xk_N y) (xk_B y) (xk_L y) (xk_ret y) :: xk_kt
def xk_Lo (E : xk_E) (ls : Array Slot) (nL : Nat) (Lc : List (Option xk_V)) : Prop := ls.size = nL ∧ lv_wf ls ∧ ∀ (i : Nat) (v : xk_V), Lc[i]? = some (some v) → ls[i]? = some (.val (xk_v E v))
def xk_pick (E : xk_E) (Lc : List (Option xk_V)) (i : Nat) : Option (Nat × Value) := match Lc[i]? with
  | some (some v) => some (i, xk_v E v)
  | _ => none
def xk_ll (E : xk_E) (Lc : List (Option xk_V)) : List (Nat × Value) := (List.range Lc.length).filterMap (xk_pick E Lc)
theorem xk_Lo.has {E : xk_E} {ls : Array Slot} {nL : Nat} {Lc : List (Option xk_V)} (h : xk_Lo E ls nL Lc) : lv_has ls nL (xk_ll E Lc) := by
  refine ⟨h.1, h.2.1, fun q hq => ?_⟩
  obtain ⟨i, -, hi⟩ := List.mem_filterMap.mp hq
  unfold xk_pick at hi
  split at hi
  · next v hv => cases hi; exact h.2.2 i v hv
  · cases hi
theorem xk_Lo.store {E : xk_E} {ls' : Array Slot} {nL i : Nat} {Lc : List (Option xk_V)} {v : xk_V} (h : lv_has ls' nL ((i, xk_v E v) :: (xk_ll E Lc).filter (fun q => !(q.1 == i) && !(q.1 + 1 == i && q.2.category == 2)))) : xk_Lo E ls' nL (Lc.set i (some v)) := by
  refine ⟨h.1, h.2.1, fun j w hj => ?_⟩
  by_cases hji : j = i
  · subst hji
    rw [List.getElem?_set] at hj
    split at hj
    · split at hj
      · cases hj
        exact h.2.2 _ List.mem_cons_self
      · cases hj
    · exact absurd rfl ‹¬ j = j›
  · rw [List.getElem?_set_ne (Ne.symm hji)] at hj
    refine h.2.2 (j, xk_v E w) (List.mem_cons_of_mem _ (List.mem_filter.mpr ⟨List.mem_filterMap.mpr ⟨j, List.mem_range.mpr (List.getElem?_eq_some_iff.mp hj).1, ?_⟩, ?_⟩))
    · unfold xk_pick
      rw [hj]
    · simp [hji, xk_cat]
def xk_Qc (E : xk_E) (Q : xk_Q) : Array Value → State → Outcome → State → Prop := fun _ _ o t => ∃ (v : Option xk_V) (n : Nat) (m : xk_M) (r : xk_P), o = .returned (v.map (xk_v E)) ∧ Q v n m r ∧ xk_R E n m r t.heap
def xk_Fin (E : xk_E) (y : xk_Y) (Q : xk_Q) (below : List Frame) (args : Array Value) (s : State) : State → Prop := if y.1 = true then lw_Z below args s else MQ below (xk_Qc E Q) args s (xk_Rm y).cells (xk_Rm y).slots (xk_fr E)
theorem xk_Fin_m {E : xk_E} {y : xk_Y} {Q : xk_Q} {below : List Frame} {args : Array Value} {s : State} (h : y.1 = false) : xk_Fin E y Q below args s = MQ below (xk_Qc E Q) args s (xk_Rm y).cells (xk_Rm y).slots (xk_fr E) := if_neg (by rw [h]; decide)
theorem xk_Fin_l {E : xk_E} {y : xk_Y} {Q : xk_Q} {below : List Frame} {args : Array Value} {s : State} (h : y.1 = true) : xk_Fin E y Q below args s = lw_Z below args s := if_pos h
/-- what a frame of method y knows -/
def xk_C (E : xk_E) (y : xk_Y) (p : Program) (s : State) (mid : MethodId) (args : Array Value) (meth : Method) (c : Code) : Prop :=
  p.tables.exec = Jvm.exec ∧ c.code = xk_B y ∧ meth.sig.returnType = xk_ret y ∧ c.maxLocals = xk_L y ∧ s.vm.findClass (xk_cls y) = some mid.cls ∧ (∀ w ∈ xk_kt, w.before args s = true) ∧ meth.locks = false ∧ (y.1 = false → meth.name = (xk_N y).name) ∧ xk_K E s ∧ (y.1 = true → args = #[Value.ref E.2.2.2.1] ∧ s.heap.size = E.2.2.1 + 1)
def xk_W (E : xk_E) (y : xk_Y) (pc : Nat) (Lc : List (Option xk_V)) (st : List xk_V) (n : Nat) (m : xk_M) (r : xk_P) (ce sl : Nat) (Q : xk_Q) : Prop :=
  ∀ (p : Program) (l : Launch) (e : Env) (s : State) (mid : MethodId) (args : Array Value) (below : List Frame) (meth : Method) (c : Code) (H : Heap) (locs : List Loc) (ls : Array Slot),
    xk_C E y p s mid args meth c → xk_R E n m r H → (∀ q ∈ locs, xk_fr E q.base) → xk_Lo E ls (xk_L y) Lc →
    W p l e (xk_Rm y) s mid args below meth c H locs ce sl (xk_Fin E y Q below args s) (F0 mid pc ls (st.map (xk_v E)))
section XK
variable {E : xk_E} {y : xk_Y} {pc n ce sl : Nat} {Lc : List (Option xk_V)} {st : List xk_V} {m : xk_M} {r : xk_P} {Q : xk_Q}
theorem xk_iconst {k : Int} {v : Int32} (hd : decode (xk_B y) pc = .ok (.iconst k, 1)) (hv : Int32.ofInt k = v) (K : xk_W E y (pc + 1) Lc (.inl v :: st) n m r ce sl Q) : xk_W E y pc Lc st n m r ce sl Q :=
  fun p l e s mid args below meth c H locs ls C R hf hL => lv_iconst C.1 C.2.1 hd hv (K p l e s mid args below meth c H locs ls C R hf hL)
theorem xk_bipush {k : Int} {v : Int32} (hd : decode (xk_B y) pc = .ok (.bipush k, 2)) (hv : (Int8.ofInt k).toInt32 = v) (K : xk_W E y (pc + 2) Lc (.inl v :: st) n m r ce sl Q) : xk_W E y pc Lc st n m r ce sl Q :=
  fun p l e s mid args below meth c H locs ls C R hf hL => lv_bipush C.1 C.2.1 hd hv (K p l e s mid args below meth c H locs ls C R hf hL)
theorem xk_sipush {k : Int} {v : Int32} (hd : decode (xk_B y) pc = .ok (.sipush k, 3)) (hv : (Int16.ofInt k).toInt32 = v) (K : xk_W E y (pc + 3) Lc (.inl v :: st) n m r ce sl Q) : xk_W E y pc Lc st n m r ce sl Q :=
  fun p l e s mid args below meth c H locs ls C R hf hL => lv_sipush C.1 C.2.1 hd hv (K p l e s mid args below meth c H locs ls C R hf hL)
theorem xk_null (hd : decode (xk_B y) pc = .ok (.aconst_null, 1)) (K : xk_W E y (pc + 1) Lc (.inr none :: st) n m r ce sl Q) : xk_W E y pc Lc st n m r ce sl Q :=
  fun p l e s mid args below meth c H locs ls C R hf hL => lv_null C.1 C.2.1 hd (K p l e s mid args below meth c H locs ls C R hf hL)
theorem xk_iload_n {k : Fin 4} {x : Int32} (hd : decode (xk_B y) pc = .ok (.iload_n k, 1)) (hl : Lc[(k : Nat)]? = some (some (.inl x))) (K : xk_W E y (pc + 1) Lc (.inl x :: st) n m r ce sl Q) : xk_W E y pc Lc st n m r ce sl Q :=
  fun p l e s mid args below meth c H locs ls C R hf hL => lv_iload_n C.1 C.2.1 hd rfl (hL.2.2 _ _ hl) (K p l e s mid args below meth c H locs ls C R hf hL)
theorem xk_iload {k : Nat} {x : Int32} (hd : decode (xk_B y) pc = .ok (.iload k, 2)) (hl : Lc[k]? = some (some (.inl x))) (K : xk_W E y (pc + 2) Lc (.inl x :: st) n m r ce sl Q) : xk_W E y pc Lc st n m r ce sl Q :=
  fun p l e s mid args below meth c H locs ls C R hf hL => lv_iload C.1 C.2.1 hd (hL.2.2 _ _ hl) (K p l e s mid args below meth c H locs ls C R hf hL)
theorem xk_aload_n {k : Fin 4} {o : Option Nat} (hd : decode (xk_B y) pc = .ok (.aload_n k, 1)) (hl : Lc[(k : Nat)]? = some (some (.inr o))) (K : xk_W E y (pc + 1) Lc (.inr o :: st) n m r ce sl Q) : xk_W E y pc Lc st n m r ce sl Q :=
  fun p l e s mid args below meth c H locs ls C R hf hL => by
    have K' := K p l e s mid args below meth c H locs ls C R hf hL
    cases o with
    | none => exact lv_aload_nN C.1 C.2.1 hd rfl (hL.2.2 _ _ hl) K'
    | some a => exact lv_aload_n C.1 C.2.1 hd rfl (hL.2.2 _ _ hl) K'
theorem xk_aload {k : Nat} {o : Option Nat} (hd : decode (xk_B y) pc = .ok (.aload k, 2)) (hl : Lc[k]? = some (some (.inr o))) (K : xk_W E y (pc + 2) Lc (.inr o :: st) n m r ce sl Q) : xk_W E y pc Lc st n m r ce sl Q :=
  fun p l e s mid args below meth c H locs ls C R hf hL => by
    have K' := K p l e s mid args below meth c H locs ls C R hf hL
    cases o with
    | none => exact lv_aloadN C.1 C.2.1 hd (hL.2.2 _ _ hl) K'
    | some a => exact lv_aload C.1 C.2.1 hd (hL.2.2 _ _ hl) K'
theorem xk_istore_n {k : Fin 4} {x : Int32} (hd : decode (xk_B y) pc = .ok (.istore_n k, 1)) (hk : (k : Nat) < xk_L y) (K : xk_W E y (pc + 1) (Lc.set (k : Nat) (some (.inl x))) st n m r ce sl Q) : xk_W E y pc Lc (.inl x :: st) n m r ce sl Q :=
  fun p l e s mid args below meth c H locs ls C R hf hL => lv_istore_n C.1 C.2.1 hd rfl hL.has hk rfl (fun ls' h' => K p l e s mid args below meth c H locs ls' C R hf (xk_Lo.store (v := .inl x) h'))
theorem xk_istore {k : Nat} {x : Int32} (hd : decode (xk_B y) pc = .ok (.istore k, 2)) (hk : k < xk_L y) (K : xk_W E y (pc + 2) (Lc.set k (some (.inl x))) st n m r ce sl Q) : xk_W E y pc Lc (.inl x :: st) n m r ce sl Q :=
  fun p l e s mid args below meth c H locs ls C R hf hL => lv_istore C.1 C.2.1 hd hL.has hk rfl (fun ls' h' => K p l e s mid args below meth c H locs ls' C R hf (xk_Lo.store (v := .inl x) h'))
theorem xk_astore_n {k : Fin 4} {o : Option Nat} (hd : decode (xk_B y) pc = .ok (.astore_n k, 1)) (hk : (k : Nat) < xk_L y) (K : xk_W E y (pc + 1) (Lc.set (k : Nat) (some (.inr o))) st n m r ce sl Q) : xk_W E y pc Lc (.inr o :: st) n m r ce sl Q :=
  fun p l e s mid args below meth c H locs ls C R hf hL => by
    cases o with
    | none => exact lv_astore_nN C.1 C.2.1 hd rfl hL.has hk rfl (fun ls' h' => K p l e s mid args below meth c H locs ls' C R hf (xk_Lo.store (v := .inr none) h'))
    | some a => exact lv_astore_n C.1 C.2.1 hd rfl hL.has hk rfl (fun ls' h' => K p l e s mid args below meth c H locs ls' C R hf (xk_Lo.store (v := .inr (some a)) h'))
theorem xk_astore {k : Nat} {o : Option Nat} (hd : decode (xk_B y) pc = .ok (.astore k, 2)) (hk : k < xk_L y) (K : xk_W E y (pc + 2) (Lc.set k (some (.inr o))) st n m r ce sl Q) : xk_W E y pc Lc (.inr o :: st) n m r ce sl Q :=
  fun p l e s mid args below meth c H locs ls C R hf hL => by
    cases o with
    | none => exact lv_astoreN C.1 C.2.1 hd hL.has hk rfl (fun ls' h' => K p l e s mid args below meth c H locs ls' C R hf (xk_Lo.store (v := .inr none) h'))
    | some a => exact lv_astore C.1 C.2.1 hd hL.has hk rfl (fun ls' h' => K p l e s mid args below meth c H locs ls' C R hf (xk_Lo.store (v := .inr (some a)) h'))
theorem xk_iinc {k : Nat} {d : Int} {x v : Int32} (hd : decode (xk_B y) pc = .ok (.iinc k d, 3)) (hl : Lc[k]? = some (some (.inl x))) (hv : x + Int32.ofInt d = v) (K : xk_W E y (pc + 3) (Lc.set k (some (.inl v))) st n m r ce sl Q) : xk_W E y pc Lc st n m r ce sl Q :=
  fun p l e s mid args below meth c H locs ls C R hf hL => by
    have hk : k < xk_L y := by
      have h1 := (Array.getElem?_eq_some_iff.mp (hL.2.2 _ _ hl)).1
      rw [← hL.1]; exact h1
    have hm : (k, xk_v E (.inl x)) ∈ xk_ll E Lc := List.mem_filterMap.mpr ⟨k, List.mem_range.mpr (List.getElem?_eq_some_iff.mp hl).1, by unfold xk_pick; rw [hl]⟩
    obtain ⟨j, hj⟩ := List.getElem?_of_mem hm
    exact lv_iinc (k := j) C.1 C.2.1 hd hL.has hj hv hk rfl (fun ls' h' => K p l e s mid args below meth c H locs ls' C R hf (xk_Lo.store (v := .inl v) h'))
theorem xk_iadd {a b : Int32} (hd : decode (xk_B y) pc = .ok (.iadd, 1)) (K : xk_W E y (pc + 1) Lc (.inl (a + b) :: st) n m r ce sl Q) : xk_W E y pc Lc (.inl b :: .inl a :: st) n m r ce sl Q :=
  fun p l e s mid args below meth c H locs ls C R hf hL => lv_iadd C.1 C.2.1 hd (K p l e s mid args below meth c H locs ls C R hf hL)
theorem xk_isub {a b : Int32} (hd : decode (xk_B y) pc = .ok (.isub, 1)) (K : xk_W E y (pc + 1) Lc (.inl (a - b) :: st) n m r ce sl Q) : xk_W E y pc Lc (.inl b :: .inl a :: st) n m r ce sl Q :=
  fun p l e s mid args below meth c H locs ls C R hf hL => lv_isub C.1 C.2.1 hd (K p l e s mid args below meth c H locs ls C R hf hL)
theorem xk_imul {a b : Int32} (hd : decode (xk_B y) pc = .ok (.imul, 1)) (K : xk_W E y (pc + 1) Lc (.inl (a * b) :: st) n m r ce sl Q) : xk_W E y pc Lc (.inl b :: .inl a :: st) n m r ce sl Q :=
  fun p l e s mid args below meth c H locs ls C R hf hL => lv_imul C.1 C.2.1 hd (K p l e s mid args below meth c H locs ls C R hf hL)
theorem xk_iand {a b : Int32} (hd : decode (xk_B y) pc = .ok (.iand, 1)) (K : xk_W E y (pc + 1) Lc (.inl (a &&& b) :: st) n m r ce sl Q) : xk_W E y pc Lc (.inl b :: .inl a :: st) n m r ce sl Q :=
  fun p l e s mid args below meth c H locs ls C R hf hL => lv_iand C.1 C.2.1 hd (K p l e s mid args below meth c H locs ls C R hf hL)
theorem xk_ishr {a b : Int32} (hd : decode (xk_B y) pc = .ok (.ishr, 1)) (K : xk_W E y (pc + 1) Lc (.inl (a >>> (b &&& 31)) :: st) n m r ce sl Q) : xk_W E y pc Lc (.inl b :: .inl a :: st) n m r ce sl Q :=
  fun p l e s mid args below meth c H locs ls C R hf hL => lv_ishr C.1 C.2.1 hd (K p l e s mid args below meth c H locs ls C R hf hL)
theorem xk_idiv {a b : Int32} (hd : decode (xk_B y) pc = .ok (.idiv, 1)) (hb : ¬ b = 0) (K : xk_W E y (pc + 1) Lc (.inl (a / b) :: st) n m r ce sl Q) : xk_W E y pc Lc (.inl b :: .inl a :: st) n m r ce sl Q :=
  fun p l e s mid args below meth c H locs ls C R hf hL => lv_idiv C.1 C.2.1 hd hb (K p l e s mid args below meth c H locs ls C R hf hL)
theorem xk_irem {a b : Int32} (hd : decode (xk_B y) pc = .ok (.irem, 1)) (hb : ¬ b = 0) (K : xk_W E y (pc + 1) Lc (.inl (a - a / b * b) :: st) n m r ce sl Q) : xk_W E y pc Lc (.inl b :: .inl a :: st) n m r ce sl Q :=
  fun p l e s mid args below meth c H locs ls C R hf hL => lv_irem C.1 C.2.1 hd hb (K p l e s mid args below meth c H locs ls C R hf hL)
theorem xk_dup {v : xk_V} (hd : decode (xk_B y) pc = .ok (.dup, 1)) (K : xk_W E y (pc + 1) Lc (v :: v :: st) n m r ce sl Q) : xk_W E y pc Lc (v :: st) n m r ce sl Q :=
  fun p l e s mid args below meth c H locs ls C R hf hL => lv_dup C.1 C.2.1 hd (xk_cat E v) (K p l e s mid args below meth c H locs ls C R hf hL)
theorem xk_pop {v : xk_V} (hd : decode (xk_B y) pc = .ok (.pop, 1)) (K : xk_W E y (pc + 1) Lc st n m r ce sl Q) : xk_W E y pc Lc (v :: st) n m r ce sl Q :=
  fun p l e s mid args below meth c H locs ls C R hf hL => lv_pop C.1 C.2.1 hd (xk_cat E v) (K p l e s mid args below meth c H locs ls C R hf hL)
theorem xk_dup_x1 {v w : xk_V} (hd : decode (xk_B y) pc = .ok (.dup_x1, 1)) (K : xk_W E y (pc + 1) Lc (v :: w :: v :: st) n m r ce sl Q) : xk_W E y pc Lc (v :: w :: st) n m r ce sl Q :=
  fun p l e s mid args below meth c H locs ls C R hf hL => lv_dup_x1 C.1 C.2.1 hd (xk_cat E v) (xk_cat E w) (K p l e s mid args below meth c H locs ls C R hf hL)
theorem xk_dup2 {v w : xk_V} (hd : decode (xk_B y) pc = .ok (.dup2, 1)) (K : xk_W E y (pc + 1) Lc (v :: w :: v :: w :: st) n m r ce sl Q) : xk_W E y pc Lc (v :: w :: st) n m r ce sl Q :=
  fun p l e s mid args below meth c H locs ls C R hf hL => lv_dup2_11 C.1 C.2.1 hd (xk_cat E v) (xk_cat E w) (K p l e s mid args below meth c H locs ls C R hf hL)
theorem xk_goto {off : Int} {tgt : Nat} (hd : decode (xk_B y) pc = .ok (.goto off, 3)) (ht : (pc : Int) + off = (tgt : Int)) (K : xk_W E y tgt Lc st n m r ce sl Q) : xk_W E y pc Lc st n m r ce sl Q :=
  fun p l e s mid args below meth c H locs ls C R hf hL => lv_goto C.1 C.2.1 hd ht (K p l e s mid args below meth c H locs ls C R hf hL)
theorem xk_if_eq {x : Int32} {off : Int} {tgt : Nat} (hd : decode (xk_B y) pc = .ok (.ifCond .eq off, 3)) (ht : (pc : Int) + off = (tgt : Int)) (kt : x = 0 → xk_W E y tgt Lc st n m r ce sl Q) (kf : ¬ x = 0 → xk_W E y (pc + 3) Lc st n m r ce sl Q) : xk_W E y pc Lc (.inl x :: st) n m r ce sl Q :=
  fun p l e s mid args below meth c H locs ls C R hf hL => lv_if_eq C.1 C.2.1 hd ht (fun q => kt q p l e s mid args below meth c H locs ls C R hf hL) (fun q => kf q p l e s mid args below meth c H locs ls C R hf hL)
theorem xk_if_ne {x : Int32} {off : Int} {tgt : Nat} (hd : decode (xk_B y) pc = .ok (.ifCond .ne off, 3)) (ht : (pc : Int) + off = (tgt : Int)) (kt : ¬ x = 0 → xk_W E y tgt Lc st n m r ce sl Q) (kf : x = 0 → xk_W E y (pc + 3) Lc st n m r ce sl Q) : xk_W E y pc Lc (.inl x :: st) n m r ce sl Q :=
  fun p l e s mid args below meth c H locs ls C R hf hL => lv_if_ne C.1 C.2.1 hd ht (fun q => kt q p l e s mid args below meth c H locs ls C R hf hL) (fun q => kf q p l e s mid args below meth c H locs ls C R hf hL)
theorem xk_if_lt {x : Int32} {off : Int} {tgt : Nat} (hd : decode (xk_B y) pc = .ok (.ifCond .lt off, 3)) (ht : (pc : Int) + off = (tgt : Int)) (kt : x < 0 → xk_W E y tgt Lc st n m r ce sl Q) (kf : ¬ x < 0 → xk_W E y (pc + 3) Lc st n m r ce sl Q) : xk_W E y pc Lc (.inl x :: st) n m r ce sl Q :=
  fun p l e s mid args below meth c H locs ls C R hf hL => lv_if_lt C.1 C.2.1 hd ht (fun q => kt q p l e s mid args below meth c H locs ls C R hf hL) (fun q => kf q p l e s mid args below meth c H locs ls C R hf hL)
theorem xk_if_ge {x : Int32} {off : Int} {tgt : Nat} (hd : decode (xk_B y) pc = .ok (.ifCond .ge off, 3)) (ht : (pc : Int) + off = (tgt : Int)) (kt : 0 ≤ x → xk_W E y tgt Lc st n m r ce sl Q) (kf : ¬ 0 ≤ x → xk_W E y (pc + 3) Lc st n m r ce sl Q) : xk_W E y pc Lc (.inl x :: st) n m r ce sl Q :=
  fun p l e s mid args below meth c H locs ls C R hf hL => lv_if_ge C.1 C.2.1 hd ht (fun q => kt q p l e s mid args below meth c H locs ls C R hf hL) (fun q => kf q p l e s mid args below meth c H locs ls C R hf hL)
theorem xk_if_gt {x : Int32} {off : Int} {tgt : Nat} (hd : decode (xk_B y) pc = .ok (.ifCond .gt off, 3)) (ht : (pc : Int) + off = (tgt : Int)) (kt : 0 < x → xk_W E y tgt Lc st n m r ce sl Q) (kf : ¬ 0 < x → xk_W E y (pc + 3) Lc st n m r ce sl Q) : xk_W E y pc Lc (.inl x :: st) n m r ce sl Q :=
  fun p l e s mid args below meth c H locs ls C R hf hL => lv_if_gt C.1 C.2.1 hd ht (fun q => kt q p l e s mid args below meth c H locs ls C R hf hL) (fun q => kf q p l e s mid args below meth c H locs ls C R hf hL)
theorem xk_if_le {x : Int32} {off : Int} {tgt : Nat} (hd : decode (xk_B y) pc = .ok (.ifCond .le off, 3)) (ht : (pc : Int) + off = (tgt : Int)) (kt : x ≤ 0 → xk_W E y tgt Lc st n m r ce sl Q) (kf : ¬ x ≤ 0 → xk_W E y (pc + 3) Lc st n m r ce sl Q) : xk_W E y pc Lc (.inl x :: st) n m r ce sl Q :=
  fun p l e s mid args below meth c H locs ls C R hf hL => lv_if_le C.1 C.2.1 hd ht (fun q => kt q p l e s mid args below meth c H locs ls C R hf hL) (fun q => kf q p l e s mid args below meth c H locs ls C R hf hL)
theorem xk_icmp_eq {x z : Int32} {off : Int} {tgt : Nat} (hd : decode (xk_B y) pc = .ok (.if_icmp .eq off, 3)) (ht : (pc : Int) + off = (tgt : Int)) (kt : x = z → xk_W E y tgt Lc st n m r ce sl Q) (kf : ¬ x = z → xk_W E y (pc + 3) Lc st n m r ce sl Q) : xk_W E y pc Lc (.inl z :: .inl x :: st) n m r ce sl Q :=
  fun p l e s mid args below meth c H locs ls C R hf hL => lv_icmp_eq C.1 C.2.1 hd ht (fun q => kt q p l e s mid args below meth c H locs ls C R hf hL) (fun q => kf q p l e s mid args below meth c H locs ls C R hf hL)
theorem xk_icmp_ne {x z : Int32} {off : Int} {tgt : Nat} (hd : decode (xk_B y) pc = .ok (.if_icmp .ne off, 3)) (ht : (pc : Int) + off = (tgt : Int)) (kt : ¬ x = z → xk_W E y tgt Lc st n m r ce sl Q) (kf : x = z → xk_W E y (pc + 3) Lc st n m r ce sl Q) : xk_W E y pc Lc (.inl z :: .inl x :: st) n m r ce sl Q :=
  fun p l e s mid args below meth c H locs ls C R hf hL => lv_icmp_ne C.1 C.2.1 hd ht (fun q => kt q p l e s mid args below meth c H locs ls C R hf hL) (fun q => kf q p l e s mid args below meth c H locs ls C R hf hL)
theorem xk_icmp_lt {x z : Int32} {off : Int} {tgt : Nat} (hd : decode (xk_B y) pc = .ok (.if_icmp .lt off, 3)) (ht : (pc : Int) + off = (tgt : Int)) (kt : x < z → xk_W E y tgt Lc st n m r ce sl Q) (kf : ¬ x < z → xk_W E y (pc + 3) Lc st n m r ce sl Q) : xk_W E y pc Lc (.inl z :: .inl x :: st) n m r ce sl Q :=
  fun p l e s mid args below meth c H locs ls C R hf hL => lv_icmp_lt C.1 C.2.1 hd ht (fun q => kt q p l e s mid args below meth c H locs ls C R hf hL) (fun q => kf q p l e s mid args below meth c H locs ls C R hf hL)
theorem xk_icmp_ge {x z : Int32} {off : Int} {tgt : Nat} (hd : decode (xk_B y) pc = .ok (.if_icmp .ge off, 3)) (ht : (pc : Int) + off = (tgt : Int)) (kt : z ≤ x → xk_W E y tgt Lc st n m r ce sl Q) (kf : ¬ z ≤ x → xk_W E y (pc + 3) Lc st n m r ce sl Q) : xk_W E y pc Lc (.inl z :: .inl x :: st) n m r ce sl Q :=
  fun p l e s mid args below meth c H locs ls C R hf hL => lv_icmp_ge C.1 C.2.1 hd ht (fun q => kt q p l e s mid args below meth c H locs ls C R hf hL) (fun q => kf q p l e s mid args below meth c H locs ls C R hf hL)
theorem xk_icmp_gt {x z : Int32} {off : Int} {tgt : Nat} (hd : decode (xk_B y) pc = .ok (.if_icmp .gt off, 3)) (ht : (pc : Int) + off = (tgt : Int)) (kt : z < x → xk_W E y tgt Lc st n m r ce sl Q) (kf : ¬ z < x → xk_W E y (pc + 3) Lc st n m r ce sl Q) : xk_W E y pc Lc (.inl z :: .inl x :: st) n m r ce sl Q :=
  fun p l e s mid args below meth c H locs ls C R hf hL => lv_icmp_gt C.1 C.2.1 hd ht (fun q => kt q p l e s mid args below meth c H locs ls C R hf hL) (fun q => kf q p l e s mid args below meth c H locs ls C R hf hL)
theorem xk_icmp_le {x z : Int32} {off : Int} {tgt : Nat} (hd : decode (xk_B y) pc = .ok (.if_icmp .le off, 3)) (ht : (pc : Int) + off = (tgt : Int)) (kt : x ≤ z → xk_W E y tgt Lc st n m r ce sl Q) (kf : ¬ x ≤ z → xk_W E y (pc + 3) Lc st n m r ce sl Q) : xk_W E y pc Lc (.inl z :: .inl x :: st) n m r ce sl Q :=
  fun p l e s mid args below meth c H locs ls C R hf hL => lv_icmp_le C.1 C.2.1 hd ht (fun q => kt q p l e s mid args below meth c H locs ls C R hf hL) (fun q => kf q p l e s mid args below meth c H locs ls C R hf hL)
theorem xk_ifnull {o : Option Nat} {off : Int} {tgt : Nat} (hd : decode (xk_B y) pc = .ok (.ifnull off, 3)) (ht : (pc : Int) + off = (tgt : Int)) (kt : o = none → xk_W E y tgt Lc st n m r ce sl Q) (kf : ∀ a, o = some a → xk_W E y (pc + 3) Lc st n m r ce sl Q) : xk_W E y pc Lc (.inr o :: st) n m r ce sl Q :=
  fun p l e s mid args below meth c H locs ls C R hf hL => by
    cases o with
    | none => exact lv_ifnullN C.1 C.2.1 hd ht (kt rfl p l e s mid args below meth c H locs ls C R hf hL)
    | some a => exact lv_ifnull C.1 C.2.1 hd (kf a rfl p l e s mid args below meth c H locs ls C R hf hL)
theorem xk_ifnonnull {o : Option Nat} {off : Int} {tgt : Nat} (hd : decode (xk_B y) pc = .ok (.ifnonnull off, 3)) (ht : (pc : Int) + off = (tgt : Int)) (kt : ∀ a, o = some a → xk_W E y tgt Lc st n m r ce sl Q) (kf : o = none → xk_W E y (pc + 3) Lc st n m r ce sl Q) : xk_W E y pc Lc (.inr o :: st) n m r ce sl Q :=
  fun p l e s mid args below meth c H locs ls C R hf hL => by
    cases o with
    | none => exact lv_ifnonnullN C.1 C.2.1 hd (kf rfl p l e s mid args below meth c H locs ls C R hf hL)
    | some a => exact lv_ifnonnull C.1 C.2.1 hd ht (kt a rfl p l e s mid args below meth c H locs ls C R hf hL)
theorem xk_tableOut {dflt lo hi : Int} {offs : Array Int} {len : Nat} {x : Int32} {tgt : Nat} (hd : decode (xk_B y) pc = .ok (.tableswitch dflt lo hi offs, len)) (h : x.toInt < lo ∨ hi < x.toInt) (ht : (pc : Int) + dflt = (tgt : Int)) (K : xk_W E y tgt Lc st n m r ce sl Q) : xk_W E y pc Lc (.inl x :: st) n m r ce sl Q :=
  fun p l e s mid args below meth c H locs ls C R hf hL => lv_tableOut C.1 C.2.1 hd h ht (K p l e s mid args below meth c H locs ls C R hf hL)
theorem xk_tableIn {dflt lo hi : Int} {offs : Array Int} {len : Nat} {x : Int32} {off : Int} {tgt : Nat} (hd : decode (xk_B y) pc = .ok (.tableswitch dflt lo hi offs, len)) (h1 : ¬ x.toInt < lo) (h2 : ¬ hi < x.toInt) (ho : offs[(x.toInt - lo).toNat]? = some off) (ht : (pc : Int) + off = (tgt : Int)) (K : xk_W E y tgt Lc st n m r ce sl Q) : xk_W E y pc Lc (.inl x :: st) n m r ce sl Q :=
  fun p l e s mid args below meth c H locs ls C R hf hL => lv_tableIn C.1 C.2.1 hd h1 h2 ho ht (K p l e s mid args below meth c H locs ls C R hf hL)
end XK
end
section
/-! the machine's heap: fields, arrays, new cells -/
def xk_up {α : Type} (f : Nat → Nat → α) (a k : Nat) (v : α) : Nat → Nat → α := fun b j => if b = a ∧ j = k then v else f b j
theorem xk_up_s {α : Type} {f : Nat → Nat → α} {a k : Nat} {v : α} : xk_up f a k v a k = v := by simp [xk_up]
theorem xk_up_a {α : Type} {f : Nat → Nat → α} {a k b j : Nat} {v : α} (h : b ≠ a) : xk_up f a k v b j = f b j := by simp [xk_up, h]
theorem xk_up_k {α : Type} {f : Nat → Nat → α} {a k b j : Nat} {v : α} (h : j ≠ k) : xk_up f a k v b j = f b j := by simp [xk_up, h]
theorem xk_ad_inj {E : xk_E} {a b : Nat} (ha : 1 ≤ a) (hb : 1 ≤ b) (h : xk_ad E a = xk_ad E b) : a = b := by
  unfold xk_ad at h
  rw [if_neg (by omega), if_neg (by omega)] at h
  omega
theorem xk_ad_fr {E : xk_E} {a : Nat} (ha : 1 ≤ a) : xk_fr E (xk_ad E a) := by
  unfold xk_ad xk_fr
  rw [if_neg (by omega)]
  omega
theorem xk_cell.kept {E : xk_E} {m m' : xk_M} {r r' : xk_P} {a : Nat} {H H' : Heap} (h : xk_cell E m r a H) (hH : H'[xk_ad E a]? = H[xk_ad E a]?) (hm : m' a = m a) (hr : r' a = r a) : xk_cell E m' r' a H' := by
  have hf : ∀ b k, xk_f E b m' r' a k = xk_f E b m r a k := fun b k => by unfold xk_f; rw [hm, hr]
  unfold xk_cell at h ⊢
  split at h
  · next ci hk =>
    obtain ⟨q, h1, h2⟩ := h
    exact ⟨q, h1, (h2.kept hH).to (fun k _ => (hf _ k).symm)⟩
  · next tn hk =>
    rw [hH, h]
    congr 2
    funext j
    exact (hf _ j).symm
theorem xk_R.upd {E : xk_E} {n a : Nat} {m m' : xk_M} {r r' : xk_P} {H H' : Heap} (h : xk_R E n m r H) (ha : 1 ≤ a) (hn : a < n) (hs : H'.size = H.size) (ho : ∀ q, q ≠ xk_ad E a → H'[q]? = H[q]?) (hm : ∀ b, b ≠ a → m' b = m b) (hr : ∀ b, b ≠ a → r' b = r b) (hc : xk_cell E m' r' a H') : xk_R E n m' r' H' := by
  obtain ⟨h1, h2, h3, ⟨h4, h5⟩, h6⟩ := h
  refine ⟨h1, hs.trans h2, fun b hb hbn => ?_, ⟨?_, h5⟩, fun b hb k => ?_⟩
  · by_cases hba : b = a
    · subst hba; exact hc
    · exact (h3 b hb hbn).kept (ho _ (fun e => hba (xk_ad_inj hb ha e))) (hm b hba) (hr b hba)
  · rw [ho _ ?_]
    · exact h4
    · have := xk_ad_fr (E := E) ha
      unfold xk_fr at this
      omega
  · rw [hm b (by omega), hr b (by omega)]
    exact h6 b hb k
theorem xk_loc {E : xk_E} {locs : List Loc} {a k : Nat} (h : ∀ q ∈ locs, xk_fr E q.base) (ha : 1 ≤ a) : ∀ q ∈ locs ++ [⟨xk_ad E a, k⟩], xk_fr E q.base := t_lc h (xk_ad_fr ha)
/-- where a field of class number ci, place k, is linked from 'own' at 'idx' -/
def xk_FL (own : String) (idx ci k : Nat) : Prop := ∃ q : vw_C, xk_cl[ci]? = some q ∧ k < q.2.2 ∧ (Cond.fieldLink own idx (q.2.1 k).1 (q.2.1 k).2.1 (q.2.1 k).2.2.1 ∈ xk_kt ∨ ∃ host, Cond.fieldLinkNest own idx (q.2.1 k).1 (q.2.1 k).2.1 (q.2.1 k).2.2.1 host ∈ xk_nw)
section XH
variable {E : xk_E} {y : xk_Y} {pc n ce sl : Nat} {Lc : List (Option xk_V)} {st : List xk_V} {m : xk_M} {r : xk_P} {Q : xk_Q}
theorem xk_getf {idx ci k a : Nat} {v : xk_V} (hd : decode (xk_B y) pc = .ok (.getfield idx, 3)) (hl : xk_FL (xk_cls y) idx ci k) (hk : xk_kd a = .inl ci) (ha : 1 ≤ a) (hn : a < n) (hv : xk_f E (xk_rf ci k) m r a k = xk_v E v) (K : xk_W E y (pc + 3) Lc (v :: st) n m r ce sl Q) : xk_W E y pc Lc (.inr (some a) :: st) n m r ce sl Q := by
  intro p l e s mid args below meth c H locs ls C R hf hL
  have K' := K p l e s mid args below meth c H locs ls C R hf hL
  obtain ⟨q, hq, hkN, hlk⟩ := hl
  have hc := R.2.2.1 a ha hn
  unfold xk_cell at hc
  rw [hk] at hc
  obtain ⟨q', hq', cell, c1, c2, c3, c4⟩ := hc
  cases hq.symm.trans hq'
  obtain ⟨hx, hb, -, -, hown, hts, -, -, ⟨hK, -, hnw, -⟩, -⟩ := C
  obtain ⟨hS, hfc, kC, hkC, hkind⟩ := hK.1 ci q hq
  obtain ⟨cf, kf, fi, f, hi, hsl⟩ := hS k hkN
  have hst := (u_facts hfc hkC (u_lays hts (xk_clall ci q hq).1 hkN) hi).1
  have hv2 : cell.slots[f.slot]? = some (xk_v E v) := by rw [hsl, c4 k hkN]; exact congrArg some hv
  rcases hlk with hlk | ⟨host, hlk⟩
  · exact W.getf hx hb hown (hts _ hlk) hi hst c1 (by rw [c3]; exact fun h => by cases h) hv2 rfl rfl hd K'
  · exact va_Wgetf hx hb hown (va_Nw.use rfl (hnw _ hlk)) hi hst c1 (by rw [c3]; exact fun h => by cases h) hv2 rfl rfl hd K'
theorem xk_getI {idx ci k a : Nat} (hd : decode (xk_B y) pc = .ok (.getfield idx, 3)) (hl : xk_FL (xk_cls y) idx ci k) (hk : xk_kd a = .inl ci) (hr : xk_rf ci k = false) (ha : 1 ≤ a) (hn : a < n) (K : xk_W E y (pc + 3) Lc (.inl (m a k) :: st) n m r ce sl Q) : xk_W E y pc Lc (.inr (some a) :: st) n m r ce sl Q :=
  xk_getf hd hl hk ha hn (v := .inl (m a k)) (by rw [hr]; rfl) K
theorem xk_getR {idx ci k a : Nat} (hd : decode (xk_B y) pc = .ok (.getfield idx, 3)) (hl : xk_FL (xk_cls y) idx ci k) (hk : xk_kd a = .inl ci) (hr : xk_rf ci k = true) (ha : 1 ≤ a) (hn : a < n) (K : xk_W E y (pc + 3) Lc (.inr (r a k) :: st) n m r ce sl Q) : xk_W E y pc Lc (.inr (some a) :: st) n m r ce sl Q :=
  xk_getf hd hl hk ha hn (v := .inr (r a k)) (by rw [hr]; rfl) K
theorem xk_putf {idx ci k a : Nat} {v : xk_V} {m' : xk_M} {r' : xk_P} (hd : decode (xk_B y) pc = .ok (.putfield idx, 3)) (hl : xk_FL (xk_cls y) idx ci k) (hk : xk_kd a = .inl ci) (ha : 1 ≤ a) (hn : a < n)
    (hfin : ∀ q : vw_C, xk_cl[ci]? = some q → (q.2.1 k).2.2.2 = true → (xk_N y).name = "<init>" ∧ (q.2.1 k).1 = xk_cls y ∧ y.1 = false)
    (hty : narrow (xk_ty ci k) (xk_v E v) = xk_v E v ∧ fits (xk_ty ci k) (xk_v E v) = true)
    (hm : ∀ b, b ≠ a → m' b = m b) (hr : ∀ b, b ≠ a → r' b = r b) (hs : xk_f E (xk_rf ci k) m' r' a k = xk_v E v) (ho : ∀ j, j ≠ k → m' a j = m a j ∧ r' a j = r a j)
    (K : xk_W E y (pc + 3) Lc st n m' r' ce sl Q) : xk_W E y pc Lc (v :: .inr (some a) :: st) n m r ce sl Q := by
  intro p l e s mid args below meth c H locs ls C R hf hL
  have C0 := C
  obtain ⟨q, hq, hkN, hlk⟩ := hl
  have hc := R.2.2.1 a ha hn
  unfold xk_cell at hc
  rw [hk] at hc
  obtain ⟨q', hq', cell, c1, c2, c3, c4⟩ := hc
  cases hq.symm.trans hq'
  obtain ⟨hx, hb, -, -, hown, hts, -, hname, ⟨hK, -, hnw, -⟩, -⟩ := C
  obtain ⟨hin, hpt, hnm⟩ := xk_clall ci q hq
  obtain ⟨hS, hfc, kC, hkC, hkind⟩ := hK.1 ci q hq
  obtain ⟨cf, kf, fi, f, hi, hsl⟩ := hS k hkN
  have hst := (u_facts hfc hkC (u_lays hts hin hkN) hi).1
  have hap := va_apart (own := xk_cls y) hts hin (xk_ty ci) hpt hnm hK hq
  have fin : ∀ H' : Heap, H'[xk_ad E a]? = some (cell.setSlot (E.1.2 ci k) (xk_v E v)) → H'.size = H.size → (∀ q, q ≠ xk_ad E a → H'[q]? = H[q]?) → W p l e (xk_Rm y) s mid args below meth c H' (locs ++ [⟨xk_ad E a, E.1.2 ci k⟩]) ce sl (xk_Fin E y Q below args s) (F0 mid (pc + 3) ls (st.map (xk_v E))) := by
    intro H' e1 e2 e3
    refine K p l e s mid args below meth c H' _ ls C0 (R.upd ha hn e2 e3 hm hr ?_) (xk_loc hf ha) hL
    unfold xk_cell
    rw [hk]
    refine ⟨q, hq, t_OB.to (V := updV (fun j => xk_f E (xk_rf ci j) m r a j) k (xk_v E v)) ⟨_, e1, c2, c3, t_set c4 hap hkN (xk_v E v)⟩ (fun j _ => ?_)⟩
    by_cases hj : j = k
    · subst hj
      simp only [updV, if_true]
      exact hs.symm
    · obtain ⟨o1, o2⟩ := ho j hj
      simp only [updV, if_neg hj]
      unfold xk_f
      rw [o1, o2]
  have hslot : f.slot < cell.slots.size := by rw [hsl]; exact k2_hasslot (c4 k hkN)
  cases hF : (q.2.1 k).2.2.2 with
  | false =>
    have hlay := hts _ (hin _ (u_in_lay hkN))
    unfold u_lay at hlay
    rw [if_neg (by rw [hF]; decide)] at hlay
    have h6 := u_store hfc hkC hkind hlay hi (hpt k hkN) hty.1 hty.2
    rcases hlk with hlk | ⟨host, hlk⟩
    · refine W.putK hx hb (f := f) ⟨hown, hts _ hlk, ⟨_, _, _, hi⟩, hst⟩ (by rw [c2]; exact h6) c1 c3 hslot rfl rfl hd fun H' e1 e2 e3 => ?_
      rw [hsl] at e1 ⊢
      exact fin H' e1 e2 e3
    · refine va_WputK hx hb (f := f) hown (va_Nw.use rfl (hnw _ hlk)) hi hst (by rw [c2]; exact h6) c1 c3 hslot rfl rfl hd fun H' e1 e2 e3 => ?_
      rw [hsl] at e1 ⊢
      exact fin H' e1 e2 e3
  | true =>
    obtain ⟨hi1, hi2, hi3⟩ := hfin q hq hF
    have hlay := hts _ (hin _ (u_in_lay hkN))
    unfold u_lay at hlay
    rw [if_pos hF] at hlay
    have hcf : mid.cls = cf := by
      obtain ⟨_, _, c', _, _, _, -, -, hf', -, -, -, hown2, -⟩ := Cond.laysFinal_spec hlay
      have e1 : c' = cf := by have := hi.symm.trans hf'; simp at this; exact this.1.symm
      rw [hi2] at hown2
      rw [← e1]; exact Option.some.inj (hown.symm.trans hown2)
    have h6 := u_fits hfc hkC hkind (Or.inr hlay) hi (hpt k hkN) hty.1 hty.2
    rcases hlk with hlk | ⟨host, hlk⟩
    · refine W.putFinK hx hb hown (hts _ hlk) hi hst hcf ((hname hi3).trans hi1) (by rw [c2]; exact h6) c1 c3 hslot rfl rfl hd fun H' e1 e2 e3 => ?_
      rw [hsl] at e1 ⊢
      exact fin H' e1 e2 e3
    · refine va_Wputf hx hb hown (va_Nw.use rfl (hnw _ hlk)) hi hst (Or.inr ⟨hcf, (hname hi3).trans hi1⟩) c1 (by rw [c3]; exact fun h => by cases h) hslot h6.1 (by rw [c2, c3]; exact h6.2) rfl rfl hd ?_
      have ha' : xk_ad E a < H.size := (Array.getElem?_eq_some_iff.mp c1).1
      rw [hsl]
      refine fin _ ?_ ?_ ?_
      · simp [Array.getElem?_setIfInBounds, ha']
      · simp
      · intro q hq
        simp [Array.getElem?_setIfInBounds, Ne.symm hq]
theorem xk_putI {idx ci k a : Nat} {x : Int32} (hd : decode (xk_B y) pc = .ok (.putfield idx, 3)) (hl : xk_FL (xk_cls y) idx ci k) (hk : xk_kd a = .inl ci) (hrf : xk_rf ci k = false) (hfin : ∀ q : vw_C, xk_cl[ci]? = some q → (q.2.1 k).2.2.2 = true → (xk_N y).name = "<init>" ∧ (q.2.1 k).1 = xk_cls y ∧ y.1 = false)
    (hty : narrow (xk_ty ci k) (.int x) = .int x ∧ fits (xk_ty ci k) (.int x) = true) (ha : 1 ≤ a) (hn : a < n) (K : xk_W E y (pc + 3) Lc st n (xk_up m a k x) r ce sl Q) : xk_W E y pc Lc (.inl x :: .inr (some a) :: st) n m r ce sl Q :=
  xk_putf hd hl hk ha hn hfin hty (fun b hb => by funext j; exact xk_up_a hb) (fun _ _ => rfl) (by rw [hrf]; unfold xk_f; rw [if_neg (by decide), xk_up_s]; rfl) (fun j hj => ⟨xk_up_k hj, rfl⟩) K
theorem xk_putR {idx ci k a : Nat} {o : Option Nat} (hd : decode (xk_B y) pc = .ok (.putfield idx, 3)) (hl : xk_FL (xk_cls y) idx ci k) (hk : xk_kd a = .inl ci) (hrf : xk_rf ci k = true) (hfin : ∀ q : vw_C, xk_cl[ci]? = some q → (q.2.1 k).2.2.2 = true → (xk_N y).name = "<init>" ∧ (q.2.1 k).1 = xk_cls y ∧ y.1 = false)
    (hty : narrow (xk_ty ci k) (xk_v E (.inr o)) = xk_v E (.inr o) ∧ fits (xk_ty ci k) (xk_v E (.inr o)) = true) (ha : 1 ≤ a) (hn : a < n) (K : xk_W E y (pc + 3) Lc st n m (xk_up r a k o) ce sl Q) : xk_W E y pc Lc (.inr o :: .inr (some a) :: st) n m r ce sl Q :=
  xk_putf hd hl hk ha hn hfin hty (fun _ _ => rfl) (fun b hb => by funext j; exact xk_up_a hb) (by rw [hrf]; unfold xk_f; rw [if_pos rfl, xk_up_s]) (fun j hj => ⟨rfl, xk_up_k hj⟩) K
theorem xk_arr {a t len : Nat} {H : Heap} (R : xk_R E n m r H) (hk : xk_kd a = .inr (t, len)) (ha : 1 ≤ a) (hn : a < n) : H[xk_ad E a]? = some (arrV (E.2.1 t) len (fun j => xk_f E (decide (2 ≤ t)) m r a j)) := by
  have hc := R.2.2.1 a ha hn
  unfold xk_cell at hc
  rw [hk] at hc
  exact hc
theorem xk_iaload {a len i : Nat} {j : Int32} (hd : decode (xk_B y) pc = .ok (.iaload, 1)) (hk : xk_kd a = .inr (0, len)) (ha : 1 ≤ a) (hn : a < n) (hj : j = nI i) (hi : i < len) (hlen : len < 2 ^ 31) (K : xk_W E y (pc + 1) Lc (.inl (m a i) :: st) n m r ce sl Q) : xk_W E y pc Lc (.inl j :: .inr (some a) :: st) n m r ce sl Q := by
  intro p l e s mid args below meth c H locs ls C R hf hL
  subst hj
  have hc := nI_clamp (n := i) (by omega)
  exact W.iald (v := .int (m a i)) C.1 C.2.1 (xk_arr R hk ha hn) ((C.2.2.2.2.2.2.2.2.1.1.2 0 _ rfl).1 len _) (fun q => by cases q) (by rw [arrV_size]; exact nI_in hi hlen) (by rw [hc, arrV_read _ _ hi]; rfl) rfl rfl hd (K p l e s mid args below meth c H locs ls C R hf hL)
theorem xk_baload {a len i : Nat} {j : Int32} (hd : decode (xk_B y) pc = .ok (.baload, 1)) (hk : xk_kd a = .inr (1, len)) (ha : 1 ≤ a) (hn : a < n) (hj : j = nI i) (hi : i < len) (hlen : len < 2 ^ 31) (K : xk_W E y (pc + 1) Lc (.inl (m a i) :: st) n m r ce sl Q) : xk_W E y pc Lc (.inl j :: .inr (some a) :: st) n m r ce sl Q := by
  intro p l e s mid args below meth c H locs ls C R hf hL
  subst hj
  have hc := nI_clamp (n := i) (by omega)
  exact W.zald (v := .int (m a i)) C.1 C.2.1 (xk_arr R hk ha hn) ((C.2.2.2.2.2.2.2.2.1.1.2 1 _ rfl).1 len _) (fun q => by cases q) (by rw [arrV_size]; exact nI_in hi hlen) (by rw [hc, arrV_read _ _ hi]; rfl) rfl rfl hd (K p l e s mid args below meth c H locs ls C R hf hL)
theorem xk_tyr {t : Nat} (h2 : 2 ≤ t) (h5 : t < 5) : (xk_tys E)[t]? = some (E.2.1 t, xk_aty t) ∧ ∃ C, xk_aty t = .object C := by
  rcases (by omega : t = 2 ∨ t = 3 ∨ t = 4) with rfl | rfl | rfl <;> exact ⟨rfl, _, rfl⟩
theorem xk_aaload {a t len i : Nat} {j : Int32} (hd : decode (xk_B y) pc = .ok (.aaload, 1)) (hk : xk_kd a = .inr (t, len)) (h2 : 2 ≤ t) (h5 : t < 5) (ha : 1 ≤ a) (hn : a < n) (hj : j = nI i) (hi : i < len) (hlen : len < 2 ^ 31) (K : xk_W E y (pc + 1) Lc (.inr (r a i) :: st) n m r ce sl Q) : xk_W E y pc Lc (.inl j :: .inr (some a) :: st) n m r ce sl Q := by
  intro p l e s mid args below meth c H locs ls C R hf hL
  subst hj
  have hc := nI_clamp (n := i) (by omega)
  obtain ⟨e1, D, e2⟩ := xk_tyr (E := E) h2 h5
  have hA := (C.2.2.2.2.2.2.2.2.1.1.2 t _ e1).1 len
  exact W.aald (v := xk_v E (.inr (r a i))) (ty := xk_aty t) C.1 C.2.1 (xk_arr R hk ha hn) (hA _) (by rw [e2]; rfl) (fun q => by cases q) (by rw [arrV_size]; exact nI_in hi hlen) (by rw [hc, arrV_read _ _ hi, show decide (2 ≤ t) = true from decide_eq_true h2]; rfl) rfl rfl hd (K p l e s mid args below meth c H locs ls C R hf hL)
theorem xk_updV {E : xk_E} {b : Bool} {m m' : xk_M} {r r' : xk_P} {a i : Nat} {w : Value} (hs : xk_f E b m' r' a i = w) (ho : ∀ j, j ≠ i → m' a j = m a j ∧ r' a j = r a j) : updV (fun j => xk_f E b m r a j) i w = fun j => xk_f E b m' r' a j := by
  funext j
  by_cases hj : j = i
  · subst hj
    simp only [updV, if_true]
    exact hs.symm
  · obtain ⟨o1, o2⟩ := ho j hj
    simp only [updV, if_neg hj]
    unfold xk_f
    rw [o1, o2]
theorem xk_iastore {a len i : Nat} {j x : Int32} (hd : decode (xk_B y) pc = .ok (.iastore, 1)) (hk : xk_kd a = .inr (0, len)) (ha : 1 ≤ a) (hn : a < n) (hj : j = nI i) (hi : i < len) (hlen : len < 2 ^ 31) (K : xk_W E y (pc + 1) Lc st n (xk_up m a i x) r ce sl Q) : xk_W E y pc Lc (.inl x :: .inl j :: .inr (some a) :: st) n m r ce sl Q := by
  intro p l e s mid args below meth c H locs ls C R hf hL
  subst hj
  have hc := nI_clamp (n := i) (by omega)
  refine W.iast C.1 C.2.1 (xk_arr R hk ha hn) ((C.2.2.2.2.2.2.2.2.1.1.2 0 _ rfl).1 len _) (fun q => by cases q) (by rw [arrV_size]; exact nI_in hi hlen) rfl rfl hd fun H' e1 e2 e3 => ?_
  rw [hc, arrV_store] at e1
  refine K p l e s mid args below meth c H' _ ls C (R.upd ha hn e2 e3 (fun b hb => by funext q; exact xk_up_a hb) (fun _ _ => rfl) ?_) (xk_loc hf ha) hL
  unfold xk_cell
  rw [hk, e1]
  exact congrArg (fun f => some (arrV (E.2.1 0) len f)) (xk_updV (by unfold xk_f; rw [if_neg (by decide), xk_up_s]) (fun q hq => ⟨xk_up_k hq, rfl⟩))
theorem xk_bastore {a len i : Nat} {j x : Int32} (hd : decode (xk_B y) pc = .ok (.bastore, 1)) (hk : xk_kd a = .inr (1, len)) (ha : 1 ≤ a) (hn : a < n) (hj : j = nI i) (hi : i < len) (hlen : len < 2 ^ 31) (hx : narrow .boolean (.int x) = .int x) (K : xk_W E y (pc + 1) Lc st n (xk_up m a i x) r ce sl Q) : xk_W E y pc Lc (.inl x :: .inl j :: .inr (some a) :: st) n m r ce sl Q := by
  intro p l e s mid args below meth c H locs ls C R hf hL
  subst hj
  have hc := nI_clamp (n := i) (by omega)
  refine W.zast C.1 C.2.1 (xk_arr R hk ha hn) ((C.2.2.2.2.2.2.2.2.1.1.2 1 _ rfl).1 len _) (fun q => by cases q) (by rw [arrV_size]; exact nI_in hi hlen) rfl rfl hd fun H' e1 e2 e3 => ?_
  rw [hc, hx, arrV_store] at e1
  refine K p l e s mid args below meth c H' _ ls C (R.upd ha hn e2 e3 (fun b hb => by funext q; exact xk_up_a hb) (fun _ _ => rfl) ?_) (xk_loc hf ha) hL
  unfold xk_cell
  rw [hk, e1]
  exact congrArg (fun f => some (arrV (E.2.1 1) len f)) (xk_updV (by unfold xk_f; rw [if_neg (by decide), xk_up_s]) (fun q hq => ⟨xk_up_k hq, rfl⟩))
theorem xk_aastore {a b t len i ci : Nat} {j : Int32} {q : vw_C} (hd : decode (xk_B y) pc = .ok (.aastore, 1)) (hk : xk_kd a = .inr (t, len)) (h2 : 2 ≤ t) (h5 : t < 5) (ha : 1 ≤ a) (hn : a < n) (hj : j = nI i) (hi : i < len) (hlen : len < 2 ^ 31) (hkb : xk_kd b = .inl ci) (hq : xk_cl[ci]? = some q) (hq1 : xk_aty t = .object q.1) (hb1 : 1 ≤ b) (hbn : b < n)
    (K : xk_W E y (pc + 1) Lc st n m (xk_up r a i (some b)) ce sl Q) : xk_W E y pc Lc (.inr (some b) :: .inl j :: .inr (some a) :: st) n m r ce sl Q := by
  intro p l e s mid args below meth c H locs ls C R hf hL
  subst hj
  have hc := nI_clamp (n := i) (by omega)
  obtain ⟨e1, D, e2⟩ := xk_tyr (E := E) h2 h5
  obtain ⟨hK1, hK2⟩ := C.2.2.2.2.2.2.2.2.1.1
  have hcb := R.2.2.1 b hb1 hbn
  unfold xk_cell at hcb
  rw [hkb] at hcb
  obtain ⟨q', hq', cellV, g1, g2, g3, -⟩ := hcb
  cases hq.symm.trans hq'
  have hcls := (hK1 ci q hq).2
  have hRA := (hK2 t _ e1).2
  rw [hq1] at hRA
  obtain ⟨kA, comp, k1, k2, k3, -⟩ := hRA
  have hcomp : comp = E.1.1 ci := Option.some.inj (k3.symm.trans hcls.1)
  subst hcomp
  obtain ⟨kC, hkC, -⟩ := hcls.2
  refine W.aast C.1 C.2.1 (xk_arr R hk ha hn) (fun q h => by cases h) (fun h => by cases h) k1 k2 rfl hkC ⟨nI_pos (by omega), by rw [hc, arrV_size]; exact hi⟩ g1 (fun q h => by rw [g3] at h; cases h) (by rw [g2]; exact hkC) (by rw [g2]; exact va_assign hcls) rfl rfl hd fun H' e1 e2 e3 => ?_
  rw [hc, arrV_store] at e1
  refine K p l e s mid args below meth c H' _ ls C (R.upd ha hn e2 e3 (fun _ _ => rfl) (fun b hb => by funext q; exact xk_up_a hb) ?_) (xk_loc hf ha) hL
  unfold xk_cell
  rw [hk, e1]
  exact congrArg (fun f => some (arrV (E.2.1 t) len f)) (xk_updV (by unfold xk_f; rw [if_pos (decide_eq_true h2), xk_up_s]; rfl) (fun q hq => ⟨rfl, xk_up_k hq⟩))
theorem xk_aastoreN {a t len i : Nat} {j : Int32} (hd : decode (xk_B y) pc = .ok (.aastore, 1)) (hk : xk_kd a = .inr (t, len)) (h2 : 2 ≤ t) (h5 : t < 5) (ha : 1 ≤ a) (hn : a < n) (hj : j = nI i) (hi : i < len) (hlen : len < 2 ^ 31)
    (K : xk_W E y (pc + 1) Lc st n m (xk_up r a i none) ce sl Q) : xk_W E y pc Lc (.inr none :: .inl j :: .inr (some a) :: st) n m r ce sl Q := by
  intro p l e s mid args below meth c H locs ls C R hf hL
  subst hj
  have hc := nI_clamp (n := i) (by omega)
  obtain ⟨e1, D, e2⟩ := xk_tyr (E := E) h2 h5
  have hA := (C.2.2.2.2.2.2.2.2.1.1.2 t _ e1).1 len
  rw [e2] at hA
  refine va_WaastN (C := D) C.1 C.2.1 (xk_arr R hk ha hn) (hA _) (fun h => by cases h) (by rw [arrV_size]; exact nI_in hi hlen) rfl rfl hd fun H' e1 e2 e3 => ?_
  rw [hc, arrV_store] at e1
  refine K p l e s mid args below meth c H' _ ls C (R.upd ha hn e2 e3 (fun _ _ => rfl) (fun b hb => by funext q; exact xk_up_a hb) ?_) (xk_loc hf ha) hL
  unfold xk_cell
  rw [hk, e1]
  exact congrArg (fun f => some (arrV (E.2.1 t) len f)) (xk_updV (by unfold xk_f; rw [if_pos (decide_eq_true h2), xk_up_s]; rfl) (fun q hq => ⟨rfl, xk_up_k hq⟩))
/-- a cell is made -/
theorem xk_R.push {E : xk_E} {n : Nat} {m : xk_M} {r : xk_P} {H H' : Heap} (h : xk_R E n m r H) (hs : H'.size = H.size + 1) (ho : ∀ q, q < H.size → H'[q]? = H[q]?) (hc : xk_cell E m r n H') : xk_R E (n + 1) m r H' := by
  obtain ⟨h1, h2, h3, ⟨h4, h5⟩, h6⟩ := h
  refine ⟨by omega, by omega, fun b hb hbn => ?_, ⟨?_, h5⟩, fun b hb k => h6 b (by omega) k⟩
  · by_cases hba : b = n
    · subst hba; exact hc
    · refine (h3 b hb (by omega)).kept (ho _ ?_) rfl rfl
      unfold xk_ad
      rw [if_neg (by omega)]
      omega
  · rw [ho _ (by omega)]
    exact h4
theorem xk_ad_n {n : Nat} {H : Heap} (h : xk_R E n m r H) : xk_ad E n = H.size := by
  unfold xk_ad
  rw [if_neg (by have := h.1; omega), h.2.1]
theorem xk_dfl {ci k : Nat} (hz : m n k = 0 ∧ r n k = none) (hd : defaultValue (xk_ty ci k) = if xk_rf ci k = true then Value.null else .int 0) : defaultValue (xk_ty ci k) = xk_f E (xk_rf ci k) m r n k := by
  rw [hd]
  unfold xk_f
  rw [hz.1, hz.2]
  rfl
theorem xk_new {idx ci : Nat} {q : vw_C} (hd : decode (xk_B y) pc = .ok (.new idx, 3)) (hk : xk_kd n = .inl ci) (hq : xk_cl[ci]? = some q) (hdf : ∀ k, k < q.2.2 → defaultValue (xk_ty ci k) = if xk_rf ci k = true then Value.null else .int 0)
    (h1 : Cond.classLink (xk_cls y) idx q.1 ∈ xk_kt) (h2 : Cond.instantiable q.1 q.2.2 ∈ xk_kt) (h3 : Cond.initialized q.1 ∈ xk_kt) (hc : ce + 1 ≤ (xk_Rm y).cells) (hs : sl + q.2.2 ≤ (xk_Rm y).slots)
    (K : (∀ k, m n k = 0 ∧ r n k = none) → xk_W E y (pc + 3) Lc (.inr (some n) :: st) (n + 1) m r (ce + 1) (sl + q.2.2) Q) : xk_W E y pc Lc st n m r ce sl Q := by
  intro p l e s mid args below meth c H locs ls C R hf hL
  have C0 := C
  obtain ⟨hx, hb, -, -, hown, hts, -, -, ⟨hK, -, -, -⟩, -⟩ := C
  obtain ⟨hin, hpt, hnm⟩ := xk_clall ci q hq
  have hKn := hK.1 ci q hq
  refine W.newcK hx hb hown (hts _ h1) (hts _ h2) (hts _ h3) rfl hd hc hs hKn.2.1 rfl fun H1 kC hkC e1 z1 o1 => ?_
  have hz := R.2.2.2.2 n (Nat.le_refl n)
  have K' := K hz p l e s mid args below meth c H1 locs ls C0 (R.push z1 o1 ?_) hf hL
  · have e : ((Sum.inr (some n) :: st : List xk_V).map (xk_v E)) = .ref H.size :: st.map (xk_v E) := by
      rw [List.map_cons, ← xk_ad_n R]
      rfl
    rw [e] at K'
    exact K'
  · unfold xk_cell
    rw [hk]
    rw [← xk_ad_n R] at e1
    exact ⟨q, hq, (u_born (xk_ty ci) hts hin hKn hkC e1 hpt).to (fun j hj => xk_dfl (hz j) (hdf j hj))⟩
theorem xk_newarr {t len : Nat} {at_ : ArrayType} {x : Int32} (hd : decode (xk_B y) pc = .ok (.newarray at_, 2)) (hk : xk_kd n = .inr (t, len)) (ht : t < 2) (hty : newarray.typeOf at_ = xk_aty t) (hw : Cond.arrayClass (newarray.typeOf at_) ∈ xk_kt) (hx : x = nI len) (hlen : len < 2 ^ 20) (hc : ce + 1 ≤ (xk_Rm y).cells) (hs : sl + len ≤ (xk_Rm y).slots)
    (K : (∀ k, m n k = 0 ∧ r n k = none) → xk_W E y (pc + 2) Lc (.inr (some n) :: st) (n + 1) m r (ce + 1) (sl + len) Q) : xk_W E y pc Lc (.inl x :: st) n m r ce sl Q := by
  intro p l e s mid args below meth c H locs ls C R hf hL
  subst hx
  have C0 := C
  obtain ⟨hx, hb, -, -, hown, hts, -, -, ⟨hK, -, -, -⟩, -⟩ := C
  refine va_newaK hx hb (hts _ hw) rfl hd rfl (nI_pos (by omega)) (nI_clamp (by omega)) (by rw [hty]; rcases (by omega : t = 0 ∨ t = 1) with rfl | rfl <;> simp [xk_aty, componentBytes] <;> omega) hc hs rfl fun H1 cA e1 z1 o1 hAr hNm => ?_
  have hz := R.2.2.2.2 n (Nat.le_refl n)
  have hcA : E.2.1 t = cA := by
    rcases (by omega : t = 0 ∨ t = 1) with rfl | rfl
    · have h := (hK.2 0 _ rfl).2
      rw [hty] at hNm
      exact Option.some.inj (h.symm.trans hNm)
    · have h := (hK.2 1 _ rfl).2
      rw [hty] at hNm
      exact Option.some.inj (h.symm.trans hNm)
  have K' := K hz p l e s mid args below meth c H1 locs ls C0 (R.push z1 o1 ?_) hf hL
  · have e : ((Sum.inr (some n) :: st : List xk_V).map (xk_v E)) = .ref H.size :: st.map (xk_v E) := by
      rw [List.map_cons, ← xk_ad_n R]
      rfl
    rw [e] at K'
    exact K'
  · unfold xk_cell
    rw [hk]
    rw [← xk_ad_n R] at e1
    show H1[xk_ad E n]? = _
    rw [e1, hcA]
    congr 2
    funext j
    rw [hty]
    unfold xk_f
    rw [(hz j).1, if_neg (by simp; omega)]
    rcases (by omega : t = 0 ∨ t = 1) with rfl | rfl <;> rfl
theorem xk_anew {idx t len : Nat} {D : String} {x : Int32} (hd : decode (xk_B y) pc = .ok (.anewarray idx, 3)) (hk : xk_kd n = .inr (t, len)) (h2 : 2 ≤ t) (h5 : t < 5) (hty : xk_aty t = .object D) (hw : Cond.classLink (xk_cls y) idx D ∈ xk_kt) (hao : D ∈ xk_ao) (hx : x = nI len) (hlen : len < 2 ^ 20) (hc : ce + 1 ≤ (xk_Rm y).cells) (hs : sl + len ≤ (xk_Rm y).slots)
    (K : (∀ k, m n k = 0 ∧ r n k = none) → xk_W E y (pc + 3) Lc (.inr (some n) :: st) (n + 1) m r (ce + 1) (sl + len) Q) : xk_W E y pc Lc (.inl x :: st) n m r ce sl Q := by
  intro p l e s mid args below meth c H locs ls C R hf hL
  subst hx
  have C0 := C
  obtain ⟨hx, hb, -, -, hown, hts, -, -, ⟨hK, -, -, hAO⟩, -⟩ := C
  have hcl := nI_clamp (n := len) (by omega)
  refine W.anew hx hb hown (hts _ hw) (va_AO.use (hAO D hao)) rfl hd rfl (nI_pos (by omega)) (by rw [hcl]; omega) hc (by rw [hcl]; exact hs) fun cA kA comp f1 f2 f3 f4 => ?_
  rw [hcl]
  generalize hH1 : H.push ({ cls := cA, slots := Array.replicate len .null, vm := .none } : Cell) = H1
  have z1 : H1.size = H.size + 1 := by rw [← hH1, Array.size_push]
  have e1 : H1[H.size]? = some (arrV cA len (fun _ => .null)) := by rw [← hH1, Array.getElem?_push_size, ← arrV_new]
  have o1 : ∀ q : Nat, q < H.size → H1[q]? = H[q]? := fun q hq => by rw [← hH1, Array.getElem?_push, if_neg (Nat.ne_of_lt hq)]
  have hz := R.2.2.2.2 n (Nat.le_refl n)
  have hcA : E.2.1 t = cA := by
    have h := (hK.2 t _ (xk_tyr (E := E) h2 h5).1).2
    rw [hty] at h
    obtain ⟨_, _, -, -, -, h⟩ := h
    exact Option.some.inj (h.symm.trans f1)
  have K' := K hz p l e s mid args below meth c H1 locs ls C0 (R.push z1 o1 ?_) hf hL
  · have e : ((Sum.inr (some n) :: st : List xk_V).map (xk_v E)) = .ref H.size :: st.map (xk_v E) := by
      rw [List.map_cons, ← xk_ad_n R]
      rfl
    rw [e] at K'
    exact K'
  · unfold xk_cell
    rw [hk]
    rw [← xk_ad_n R] at e1
    show H1[xk_ad E n]? = _
    rw [e1, hcA]
    congr 2
    funext j
    unfold xk_f
    rw [(hz j).2, if_pos (decide_eq_true h2)]
    rfl
end XH
end
section
/-! the machine's calls and returns -/
def xk_Pc (E : xk_E) (as : List xk_V) (n : Nat) (m : xk_M) (r : xk_P) : Array Value → State → Prop := fun av U => av = (as.map (xk_v E)).toArray ∧ xk_R E n m r U.heap ∧ xk_K E U
theorem xk_blind {E : xk_E} {as : List xk_V} {n : Nat} {m : xk_M} {r : xk_P} : FrameBlind (xk_Pc E as n m r) := fun _ _ _ _ h => ⟨h.1, h.2.1, h.2.2.same rfl⟩
/-- what is asked once of a method: its words -/
def xk_mok (y : xk_Y) (np : Nat) : Prop := y.1 = false ∧ plainName (xk_cls y) = true ∧ Cond.code (xk_N y) (xk_B y) (xk_L y) (xk_ret y) ∈ xk_kt ∧ Cond.initialized (xk_cls y) ∈ xk_kt ∧ (xk_cls y ≠ "java/lang/invoke/MethodHandle" ∧ xk_cls y ≠ "java/lang/invoke/VarHandle") ∧ (parseMethodDescriptor (xk_N y).desc).map (fun d => d.parameters.length) = some np
/-- the locals at a method's entry -/
def xk_ent (y : xk_Y) (as : List xk_V) : List (Option xk_V) := as.map some ++ List.replicate (xk_L y - as.length) none
theorem xk_sl1 (E : xk_E) (as : List xk_V) : lg_sl (as.map (xk_v E)) = as.map (fun v => Slot.val (xk_v E v)) := by
  induction as with
  | nil => rfl
  | cons v as ih =>
    show (if (xk_v E v).category = 2 then _ else _) ++ lg_sl (as.map (xk_v E)) = _
    rw [if_neg (by rw [xk_cat]; decide), ih]
    rfl
theorem xk_args1 (E : xk_E) (as : List xk_V) : ∀ (i j : Nat) (v : xk_V), as[j]? = some v → (i + j, xk_v E v) ∈ lv_args i (as.map (xk_v E)) := by
  induction as with
  | nil => intro i j v h; simp at h
  | cons w as ih =>
    intro i j v h
    rw [List.map_cons]
    unfold lv_args
    rw [if_neg (by rw [xk_cat]; decide)]
    cases j with
    | zero =>
      rw [List.getElem?_cons_zero] at h
      cases h
      exact List.mem_cons_self
    | succ j =>
      rw [List.getElem?_cons_succ] at h
      have := ih (i + 1) j v h
      rw [show i + 1 + j = i + (j + 1) by omega] at this
      exact List.mem_cons_of_mem _ this
theorem xk_met {E : xk_E} {y : xk_Y} {np n : Nat} {as : List xk_V} {m : xk_M} {r : xk_P} {Q : xk_Q} (hm : xk_mok y np) (hlen : as.length ≤ xk_L y) (B : xk_W E y 0 (xk_ent y as) [] n m r 0 0 Q) (l : Launch) : Met l (xk_N y) (xk_ws y) (xk_Rm y) (xk_Pc E as n m r) (xk_Qc E Q) (xk_Rm y).cells (xk_Rm y).slots (xk_fr E) := by
  obtain ⟨h0, h1, -, -, -, -⟩ := hm
  refine Met.ofW (cc := xk_B y) (maxL := xk_L y) (ret := xk_ret y) h1 rfl ?_
  intro p e s mid av below meth c s₁ Bd hml hv
  obtain ⟨rfl, hR, hK⟩ := hv
  have hts := atoms_spec (ws := xk_ws y) Bd.pre
  have hl := lv_entry (as.map (xk_v E)) (n := xk_L y) (by rw [xk_sl1, List.length_map]; exact hlen)
  rw [lg_entry_eq]
  generalize (lg_sl (as.map (xk_v E)) ++ List.replicate (xk_L y - (lg_sl (as.map (xk_v E))).length) Slot.unset).toArray = ls at hl ⊢
  have hLo : xk_Lo E ls (xk_L y) (xk_ent y as) := by
    refine ⟨hl.1, hl.2.1, fun i v hi => ?_⟩
    have hi2 : as[i]? = some v := by
      unfold xk_ent at hi
      by_cases hlt : i < (as.map (some : xk_V → Option xk_V)).length
      · rw [List.getElem?_append_left hlt, List.getElem?_map] at hi
        cases ha : as[i]? with
        | none => rw [ha] at hi; cases hi
        | some w => rw [ha] at hi; cases hi; rfl
      · rw [List.getElem?_append_right (by omega)] at hi
        have := List.eq_of_mem_replicate (List.mem_of_getElem? hi)
        cases this
    have := xk_args1 E as 0 i v hi2
    rw [Nat.zero_add] at this
    exact hl.2.2 _ this
  have K := B p l e s mid (as.map (xk_v E)).toArray below meth c s.heap [] ls ⟨Bd.exec, Bd.bytes, Bd.returns, hml, findClass_of_methodNamed Bd.named, fun w hw => hts w (List.mem_cons_of_mem _ hw), Bd.notSynchronized, fun _ => (name_of_methodNamed Bd.named Bd.method).1, hK, fun h => by rw [h0] at h; cases h⟩ hR (fun q h => by cases h) hLo
  rw [xk_Fin_m h0] at K
  exact K
/-- the rooms of a caller and its callee -/
def xk_room (y z : xk_Y) : Bool := Nat.ble ((xk_Rm z).frames + 1) (xk_Rm y).frames && Nat.ble (8 + (xk_L z + 11) + (xk_Rm z).locals) (xk_Rm y).locals
theorem xk_sum (E : xk_E) (st : List xk_V) : ((st.map (xk_v E)).map fun v => v.category).sum = st.length := by
  induction st with
  | nil => rfl
  | cons v st ih =>
    rw [List.map_cons, List.map_cons, List.sum_cons, ih, xk_cat, List.length_cons]
    omega
theorem xk_kt_pay {args : Array Value} {s : State} {y : xk_Y} (hts : ∀ w ∈ xk_kt, w.before args s = true) (hc : Cond.code (xk_N y) (xk_B y) (xk_L y) (xk_ret y) ∈ xk_kt) : ∀ w ∈ xk_ws y, ∀ (a' : Array Value) (U : State), s.WarmedH U.vm → w.before a' U = true := by
  intro w hw a' U hW
  have hk : w ∈ xk_kt := by
    rcases List.mem_cons.mp hw with rfl | h
    · exact hc
    · exact h
  exact word_at hW (xk_kt_good w hk) (hts w hk)
section XC
variable {E : xk_E} {y : xk_Y} {pc n ce sl : Nat} {Lc : List (Option xk_V)} {st : List xk_V} {m : xk_M} {r : xk_P} {Q : xk_Q}
/-- what goes on behind a call -/
def xk_on (E : xk_E) (y : xk_Y) (pc : Nat) (Lc : List (Option xk_V)) (st : List xk_V) (ce sl : Nat) (Q : xk_Q) : xk_Q := fun v n' m' r' => xk_W E y pc Lc (v.toList ++ st) n' m' r' ce sl Q
theorem xk_behind {p : Program} {l : Launch} {e : Env} {s : State} {mid : MethodId} {args : Array Value} {below : List Frame} {meth : Method} {c : Code} {H : Heap} {locs : List Loc} {ls : Array Slot} {z : xk_Y} {st0 : List Value} {av : Array Value}
    (C : xk_C E y p s mid args meth c) (hf : ∀ q ∈ locs, xk_fr E q.base) (hL : xk_Lo E ls (xk_L y) Lc)
    (hr : va_Run p l e (xk_Rm y) s mid args below meth c H locs ce sl (xk_Rm z).cells (xk_Rm z).slots (F0 mid pc ls st0) (st.map (xk_v E)) (xk_Qc E (xk_on E y (pc + 3) Lc st (ce + (xk_Rm z).cells) (sl + (xk_Rm z).slots) Q) av) (xk_fr E)) :
    W p l e (xk_Rm y) s mid args below meth c H locs ce sl (xk_Fin E y Q below args s) (F0 mid pc ls st0) := by
  intro T hT X
  obtain ⟨v, st₀, t, T', L, h0, X', hL2, e1, e2, ⟨v', n', m', r', hv, hq, hR'⟩, go⟩ := hr T hT X
  have hv2 : v = v'.map (xk_v E) := Outcome.returned.inj hv
  subst hv2
  have K := hq p l e s mid args below meth c T'.heap (locs ++ L) ls C (by rw [e1]; exact hR') (t_lL hf hL2) hL
  obtain ⟨t2, a1, b1⟩ := K T' rfl X'
  refine ⟨t2, go t2 ?_, b1⟩
  have e : ((v'.toList ++ st).map (xk_v E)) = (v'.map (xk_v E)).toList ++ st.map (xk_v E) := by
    cases v' <;> rfl
  rw [e] at a1
  exact a1
/-- a link to method z from 'own' at 'idx' -/
def xk_ML (own : String) (idx : Nat) (z : xk_Y) : Prop := Cond.methodLink own idx (xk_N z) ∈ xk_kt ∨ ∃ host, Cond.methodLinkNest own idx (xk_N z) host ∈ xk_nw
theorem xk_callV {z : xk_Y} {idx np ci a : Nat} {q : vw_C} {as : List xk_V} (hd : decode (xk_B y) pc = .ok (.invokevirtual idx, 3)) (hl : xk_ML (xk_cls y) idx z) (hm : xk_mok z np) (hi : Cond.instanceMethod (xk_N z) ∈ xk_kt) (hse : Cond.selects (xk_cls z) (xk_N z) (xk_N z) ∈ xk_kt) (hroom : xk_room y z = true)
    (hk : xk_kd a = .inl ci) (hq : xk_cl[ci]? = some q) (hq1 : q.1 = xk_cls z) (ha : 1 ≤ a) (hn : a < n) (has : as.length = np) (hlen : np + 1 ≤ xk_L z) (hst : st.length ≤ 8) (hc : ce + (xk_Rm z).cells ≤ (xk_Rm y).cells) (hs : sl + (xk_Rm z).slots ≤ (xk_Rm y).slots)
    (B : xk_W E z 0 (xk_ent z (.inr (some a) :: as)) [] n m r 0 0 (xk_on E y (pc + 3) Lc st (ce + (xk_Rm z).cells) (sl + (xk_Rm z).slots) Q)) : xk_W E y pc Lc (as.reverse ++ .inr (some a) :: st) n m r ce sl Q := by
  intro p l e s mid args below meth c H locs ls C R hf hL
  have C0 := C
  obtain ⟨hx, hb, -, hml, hown, hts, -, -, hKK, -⟩ := C
  have hM := xk_met hm (as := .inr (some a) :: as) (by rw [List.length_cons]; omega) B l
  obtain ⟨h0, hpl, hcd, hini, hy, hd2⟩ := hm
  have hd3 : ∀ sig, parseMethodDescriptor (xk_N z).desc = some sig → np = sig.parameters.length := fun sig h => by
    rw [h] at hd2
    exact (Option.some.inj hd2).symm
  unfold xk_room at hroom
  rw [Bool.and_eq_true] at hroom
  have hrm := And.intro (Nat.le_of_ble_eq_true hroom.1) (Nat.le_of_ble_eq_true hroom.2)
  have hcell := R.2.2.1 a ha hn
  unfold xk_cell at hcell
  rw [hk] at hcell
  obtain ⟨q', hq', cellV, g1, g2, g3, -⟩ := hcell
  cases hq.symm.trans hq'
  have hpv : PreV s H (xk_cls z) (xk_ad E a) (xk_Pc E (.inr (some a) :: as) n m r) (as.map (xk_v E)) := ⟨xk_blind, ⟨cellV, g1, by rw [g3]; rfl, by rw [g2, ← hq1]; exact (hKK.1.1 ci q hq).2.1⟩, fun U hU hW => ⟨rfl, by rw [hU]; exact R, hKK.warm hW⟩⟩
  have est : ((as.reverse ++ Sum.inr (some a) :: st : List xk_V).map (xk_v E)) = (as.map (xk_v E)).reverse ++ .ref (xk_ad E a) :: st.map (xk_v E) := by
    rw [List.map_append, List.map_reverse]
    rfl
  rw [est]
  have hsum : 2 * (F0 mid pc ls ((as.map (xk_v E)).reverse ++ .ref (xk_ad E a) :: st.map (xk_v E))).monitorRoom + ((st.map (xk_v E)).map fun v => v.category).sum ≤ 8 := lv_room (by rw [xk_sum]; exact hst)
  rcases hl with hl | ⟨host, hl⟩
  · exact xk_behind C0 hf hL (va_runV (C := xk_cls z) (n := np) (Ts := xk_kt) ⟨hx, hb, hml, hown, hts⟩ hM ⟨⟨rfl, rfl, hrm.1, hrm.2, xk_kt_pay hts hcd, List.mem_cons_self, hts _ hcd, hts _ hini, hy, hd3, hts _ hl⟩, hts _ hi, hts _ hse⟩ hpv rfl (by rw [List.length_map]; exact has) hL.1 rfl hsum hd ⟨hc, hs⟩)
  · exact xk_behind C0 hf hL (va_runVN (C := xk_cls z) (n := np) (Ts := xk_kt) ⟨hx, hb, hml, hown, hts⟩ hM ⟨⟨⟨rfl, rfl, hrm.1, hrm.2, xk_kt_pay hts hcd, List.mem_cons_self⟩, hts _ hcd, hts _ hini, hy, hd3, va_Nw.use rfl (hKK.2.2.1 _ hl)⟩, hts _ hi, hts _ hse⟩ hpv rfl (by rw [List.length_map]; exact has) hL.1 rfl hsum hd ⟨hc, hs⟩)
theorem xk_callS {z : xk_Y} {idx np : Nat} {as : List xk_V} (hd : decode (xk_B y) pc = .ok (.invokestatic idx, 3)) (hl : xk_ML (xk_cls y) idx z) (hm : xk_mok z np) (hi : Cond.static (xk_N z) ∈ xk_kt) (hroom : xk_room y z = true)
    (has : as.length = np) (hlen : np ≤ xk_L z) (hst : st.length ≤ 8) (hc : ce + (xk_Rm z).cells ≤ (xk_Rm y).cells) (hs : sl + (xk_Rm z).slots ≤ (xk_Rm y).slots)
    (B : xk_W E z 0 (xk_ent z as) [] n m r 0 0 (xk_on E y (pc + 3) Lc st (ce + (xk_Rm z).cells) (sl + (xk_Rm z).slots) Q)) : xk_W E y pc Lc (as.reverse ++ st) n m r ce sl Q := by
  intro p l e s mid args below meth c H locs ls C R hf hL
  have C0 := C
  obtain ⟨hx, hb, -, hml, hown, hts, -, -, hKK, -⟩ := C
  have hM := xk_met hm (as := as) (by omega) B l
  obtain ⟨h0, hpl, hcd, hini, hy, hd2⟩ := hm
  have hd3 : ∀ sig, parseMethodDescriptor (xk_N z).desc = some sig → np = sig.parameters.length := fun sig h => by
    rw [h] at hd2
    exact (Option.some.inj hd2).symm
  unfold xk_room at hroom
  rw [Bool.and_eq_true] at hroom
  have hrm := And.intro (Nat.le_of_ble_eq_true hroom.1) (Nat.le_of_ble_eq_true hroom.2)
  have hpv : PreS s H (xk_Pc E as n m r) (as.map (xk_v E)) := ⟨xk_blind, fun U hU hW => ⟨rfl, by rw [hU]; exact R, hKK.warm hW⟩⟩
  have est : ((as.reverse ++ st : List xk_V).map (xk_v E)) = (as.map (xk_v E)).reverse ++ st.map (xk_v E) := by
    rw [List.map_append, List.map_reverse]
  rw [est]
  have hsum : 2 * (F0 mid pc ls ((as.map (xk_v E)).reverse ++ st.map (xk_v E))).monitorRoom + ((st.map (xk_v E)).map fun v => v.category).sum ≤ 8 := lv_room (by rw [xk_sum]; exact hst)
  rcases hl with hl | ⟨host, hl⟩
  · exact xk_behind C0 hf hL (va_runS (n := np) (Ts := xk_kt) ⟨hx, hb, hml, hown, hts⟩ hM ⟨⟨rfl, rfl, hrm.1, hrm.2, xk_kt_pay hts hcd, List.mem_cons_self, hts _ hcd, hts _ hini, hy, hd3, hts _ hl⟩, hts _ hi⟩ hpv rfl (by rw [List.length_map]; exact has) hL.1 rfl hsum hd ⟨hc, hs⟩)
  · exact xk_behind C0 hf hL (va_runSN (n := np) (Ts := xk_kt) ⟨hx, hb, hml, hown, hts⟩ hM ⟨⟨⟨rfl, rfl, hrm.1, hrm.2, xk_kt_pay hts hcd, List.mem_cons_self⟩, hts _ hcd, hts _ hini, hy, hd3, va_Nw.use rfl (hKK.2.2.1 _ hl)⟩, hts _ hi, trivial⟩ hpv rfl (by rw [List.length_map]; exact has) hL.1 rfl hsum hd ⟨hc, hs⟩)
theorem xk_callI {z : xk_Y} {idx np a : Nat} {as : List xk_V} (hd : decode (xk_B y) pc = .ok (.invokespecial idx, 3)) (hl : xk_ML (xk_cls y) idx z) (hm : xk_mok z np) (hret : xk_ret z = none) (hnm : (xk_N z).name = "<init>") (hi : Cond.instanceMethod (xk_N z) ∈ xk_kt) (hroom : xk_room y z = true)
    (has : as.length = np) (hlen : np + 1 ≤ xk_L z) (hst : st.length ≤ 8) (hc : ce + (xk_Rm z).cells ≤ (xk_Rm y).cells) (hs : sl + (xk_Rm z).slots ≤ (xk_Rm y).slots)
    (B : xk_W E z 0 (xk_ent z (.inr (some a) :: as)) [] n m r 0 0 (xk_on E y (pc + 3) Lc st (ce + (xk_Rm z).cells) (sl + (xk_Rm z).slots) Q)) : xk_W E y pc Lc (as.reverse ++ .inr (some a) :: st) n m r ce sl Q := by
  intro p l e s mid args below meth c H locs ls C R hf hL
  have C0 := C
  obtain ⟨hx, hb, -, hml, hown, hts, -, -, hKK, -⟩ := C
  have hM := xk_met hm (as := .inr (some a) :: as) (by rw [List.length_cons]; omega) B l
  obtain ⟨h0, hpl, hcd, hini, hy, hd2⟩ := hm
  have hd3 : ∀ sig, parseMethodDescriptor (xk_N z).desc = some sig → np = sig.parameters.length := fun sig h => by
    rw [h] at hd2
    exact (Option.some.inj hd2).symm
  unfold xk_room at hroom
  rw [Bool.and_eq_true] at hroom
  have hrm := And.intro (Nat.le_of_ble_eq_true hroom.1) (Nat.le_of_ble_eq_true hroom.2)
  have hpv : PreS s H (xk_Pc E (.inr (some a) :: as) n m r) (.ref (xk_ad E a) :: as.map (xk_v E)) := ⟨xk_blind, fun U hU hW => ⟨rfl, by rw [hU]; exact R, hKK.warm hW⟩⟩
  have est : ((as.reverse ++ Sum.inr (some a) :: st : List xk_V).map (xk_v E)) = (as.map (xk_v E)).reverse ++ .ref (xk_ad E a) :: st.map (xk_v E) := by
    rw [List.map_append, List.map_reverse]
    rfl
  rw [est]
  have hsum : 2 * (F0 mid pc ls ((as.map (xk_v E)).reverse ++ .ref (xk_ad E a) :: st.map (xk_v E))).monitorRoom + ((st.map (xk_v E)).map fun v => v.category).sum ≤ 8 := lv_room (by rw [xk_sum]; exact hst)
  have hpay := xk_kt_pay (y := z) hts hcd
  have hin : Cond.code (xk_N z) (xk_B z) (xk_L z) none ∈ xk_ws z := by rw [← hret]; exact List.mem_cons_self
  have hcd2 : Cond.code (xk_N z) (xk_B z) (xk_L z) none ∈ xk_kt := by rw [← hret]; exact hcd
  rcases hl with hl | ⟨host, hl⟩
  · exact xk_behind C0 hf hL (va_runI (bytes := xk_B z) (maxL := xk_L z) (n := np) (Ts := xk_kt) ⟨hx, hb, hml, hown, hts⟩ hM ⟨⟨rfl, rfl, hrm.1, hrm.2, hpay, hin, hts _ hcd2, hts _ hini, hy, hd3, hts _ hl⟩, hnm, hts _ hi⟩ hpv rfl (by rw [List.length_map]; exact has) hL.1 rfl hsum hd ⟨hc, hs⟩)
  · exact xk_behind C0 hf hL (va_runIN (bytes := xk_B z) (maxL := xk_L z) (n := np) (Ts := xk_kt) ⟨hx, hb, hml, hown, hts⟩ hM ⟨⟨⟨rfl, rfl, hrm.1, hrm.2, hpay, hin⟩, hts _ hcd2, hts _ hini, hy, hd3, va_Nw.use rfl (hKK.2.2.1 _ hl)⟩, hnm, hts _ hi⟩ hpv rfl (by rw [List.length_map]; exact has) hL.1 rfl hsum hd ⟨hc, hs⟩)
theorem xk_objInit {idx a : Nat} (hd : decode (xk_B y) pc = .ok (.invokespecial idx, 3)) (h1 : Cond.methodLink (xk_cls y) idx Lib.objectInit ∈ xk_kt) (h2 : Cond.instanceMethod Lib.objectInit ∈ xk_kt) (h3 : Cond.code Lib.objectInit ⟨#[0xb1]⟩ 1 none ∈ xk_kt) (hfr : 1 ≤ (xk_Rm y).frames) (hlo : st.length + 12 ≤ (xk_Rm y).locals)
    (K : xk_W E y (pc + 3) Lc st n m r ce sl Q) : xk_W E y pc Lc (.inr (some a) :: st) n m r ce sl Q := by
  intro p l e s mid args below meth c H locs ls C R hf hL
  obtain ⟨hx, hb, -, hml, hown, hts, -⟩ := id C
  refine W.objInit (rest := st.map (xk_v E)) hx hb hown (hts _ h1) (hts _ h2) (hts _ h3) rfl (by rw [hml]; exact hL.1) rfl hd hfr ?_ (K p l e s mid args below meth c H locs ls C R hf hL)
  have : (F0 mid pc ls ((Sum.inr (some a) :: st).map (xk_v E))).monitorRoom = 0 := rfl
  rw [this, xk_sum]
  omega
theorem xk_mmax {idx : Nat} {a b : Int32} (hd : decode (xk_B y) pc = .ok (.invokestatic idx, 3)) (h1 : Cond.methodLink (xk_cls y) idx Lib.Math.max.name ∈ xk_kt) (h2 : Cond.static Lib.Math.max.name ∈ xk_kt) (h3 : Cond.initialized "java/lang/Math" ∈ xk_kt) (h4 : Cond.code Lib.Math.max.name Lib.Math.max.code 2 (some .int) ∈ xk_kt) (hfr : 1 ≤ (xk_Rm y).frames) (hlo : st.length + 13 ≤ (xk_Rm y).locals) (hc : ce ≤ (xk_Rm y).cells) (hs : sl ≤ (xk_Rm y).slots)
    (K : xk_W E y (pc + 3) Lc (.inl (if a < b then b else a) :: st) n m r ce sl Q) : xk_W E y pc Lc (.inl b :: .inl a :: st) n m r ce sl Q := by
  intro p l e s mid args below meth c H locs ls C R hf hL
  obtain ⟨hx, hb, -, hml, hown, hts, -⟩ := id C
  exact va_mmax (rest := st.map (xk_v E)) hx hb (hml.trans hL.1.symm) hown (hts _ h1) (hts _ h2) (hts _ h3) (hts _ h4) hfr (by rw [xk_sum]; exact hlo) hc hs hd (K p l e s mid args below meth c H locs ls C R hf hL)
theorem xk_mmin {idx : Nat} {a b : Int32} (hd : decode (xk_B y) pc = .ok (.invokestatic idx, 3)) (h1 : Cond.methodLink (xk_cls y) idx Lib.Math.min.name ∈ xk_kt) (h2 : Cond.static Lib.Math.min.name ∈ xk_kt) (h3 : Cond.initialized "java/lang/Math" ∈ xk_kt) (h4 : Cond.code Lib.Math.min.name Lib.Math.min.code 2 (some .int) ∈ xk_kt) (hfr : 1 ≤ (xk_Rm y).frames) (hlo : st.length + 13 ≤ (xk_Rm y).locals) (hc : ce ≤ (xk_Rm y).cells) (hs : sl ≤ (xk_Rm y).slots)
    (K : xk_W E y (pc + 3) Lc (.inl (if b < a then b else a) :: st) n m r ce sl Q) : xk_W E y pc Lc (.inl b :: .inl a :: st) n m r ce sl Q := by
  intro p l e s mid args below meth c H locs ls C R hf hL
  obtain ⟨hx, hb, -, hml, hown, hts, -⟩ := id C
  exact va_mmin (rest := st.map (xk_v E)) hx hb (hml.trans hL.1.symm) hown (hts _ h1) (hts _ h2) (hts _ h3) (hts _ h4) hfr (by rw [xk_sum]; exact hlo) hc hs hd (K p l e s mid args below meth c H locs ls C R hf hL)
theorem xk_iret {v : Int32} (hy : y.1 = false) (hd : decode (xk_B y) pc = .ok (.ireturn, 1)) (hr : xk_ret y = some .int) (hc : ce ≤ (xk_Rm y).cells) (hs : sl ≤ (xk_Rm y).slots) (hq : Q (some (.inl v)) n m r) : xk_W E y pc Lc [.inl v] n m r ce sl Q := by
  intro p l e s mid args below meth c H locs ls C R hf hL
  have hlocks : meth.locks = false := C.2.2.2.2.2.2.1
  rw [xk_Fin_m hy]
  refine W.widen hc hs ?_
  exact W.iret (v := v) C.1 C.2.1 (C.2.2.1.trans hr) (fun t ht hW => ⟨some (.inl v), n, m, r, rfl, hq, by rw [ht]; exact R⟩) hf hd hlocks
theorem xk_zret {v : Int32} (hy : y.1 = false) (hd : decode (xk_B y) pc = .ok (.ireturn, 1)) (hr : xk_ret y = some .boolean) (hv : narrow .boolean (.int v) = .int v) (hc : ce ≤ (xk_Rm y).cells) (hs : sl ≤ (xk_Rm y).slots) (hq : Q (some (.inl v)) n m r) : xk_W E y pc Lc [.inl v] n m r ce sl Q := by
  intro p l e s mid args below meth c H locs ls C R hf hL
  have hlocks : meth.locks = false := C.2.2.2.2.2.2.1
  rw [xk_Fin_m hy]
  refine W.widen hc hs ?_
  exact W.zret (v := v) C.1 C.2.1 (C.2.2.1.trans hr) hv (fun t ht hW => ⟨some (.inl v), n, m, r, rfl, hq, by rw [ht]; exact R⟩) hf hd hlocks
theorem xk_aret {o : Option Nat} {D : String} (hy : y.1 = false) (hd : decode (xk_B y) pc = .ok (.areturn, 1)) (hr : xk_ret y = some (.object D)) (hc : ce ≤ (xk_Rm y).cells) (hs : sl ≤ (xk_Rm y).slots) (hq : Q (some (.inr o)) n m r) : xk_W E y pc Lc [.inr o] n m r ce sl Q := by
  intro p l e s mid args below meth c H locs ls C R hf hL
  have hlocks : meth.locks = false := C.2.2.2.2.2.2.1
  rw [xk_Fin_m hy]
  refine W.widen hc hs ?_
  exact W.aret (v := xk_v E (.inr o)) C.1 C.2.1 (C.2.2.1.trans hr) (Or.inl ⟨D, rfl⟩) (by cases o with | none => exact Or.inl rfl | some a => exact Or.inr ⟨_, rfl⟩) (fun t ht hW => ⟨some (.inr o), n, m, r, rfl, hq, by rw [ht]; exact R⟩) hf hd hlocks
theorem xk_vret (hy : y.1 = false) (hd : decode (xk_B y) pc = .ok (.return_, 1)) (hr : xk_ret y = none) (hc : ce ≤ (xk_Rm y).cells) (hs : sl ≤ (xk_Rm y).slots) (hq : Q none n m r) : xk_W E y pc Lc [] n m r ce sl Q := by
  intro p l e s mid args below meth c H locs ls C R hf hL
  have hlocks : meth.locks = false := C.2.2.2.2.2.2.1
  rw [xk_Fin_m hy]
  refine W.widen hc hs ?_
  exact W.vret C.1 C.2.1 (C.2.2.1.trans hr) (fun t ht hW => ⟨none, n, m, r, rfl, hq, by rw [ht]; exact R⟩) hf hd hlocks
end XC
end
section
/-! arraycopy, the script -/
def xk_cp (m : xk_M) (a b sp dp k : Nat) : xk_M := fun c j => if c = b ∧ dp ≤ j ∧ j < dp + k then m a (sp + (j - dp)) else m c j
section XD
variable {E : xk_E} {y : xk_Y} {pc n ce sl : Nat} {Lc : List (Option xk_V)} {st : List xk_V} {m : xk_M} {r : xk_P} {Q : xk_Q}
theorem xk_copyi {idx a b la lb sp dp k : Nat} {x1 x2 x3 : Int32} (hd : decode (xk_B y) pc = .ok (.invokestatic idx, 3)) (h1 : Cond.methodLink (xk_cls y) idx arraycopyName ∈ xk_kt) (h2 : Cond.native arraycopyName ∈ xk_kt) (h3 : Cond.static arraycopyName ∈ xk_kt) (h4 : Cond.initialized "java/lang/System" ∈ xk_kt)
    (hka : xk_kd a = .inr (0, la)) (hkb : xk_kd b = .inr (0, lb)) (ha : 1 ≤ a) (han : a < n) (hb1 : 1 ≤ b) (hbn : b < n) (e1 : x1 = nI sp) (e2 : x2 = nI dp) (e3 : x3 = nI k) (hla : sp + k ≤ la) (hlb : dp + k ≤ lb) (hla2 : la < 2 ^ 20) (hlb2 : lb < 2 ^ 20)
    (hfr : 1 ≤ (xk_Rm y).frames) (hlo : st.length + (nativeFrameWords "java/lang/System" "arraycopy" 5 + 11) ≤ (xk_Rm y).locals)
    (K : xk_W E y (pc + 3) Lc st n (xk_cp m a b sp dp k) r ce sl Q) : xk_W E y pc Lc (.inl x3 :: .inl x2 :: .inr (some b) :: .inl x1 :: .inr (some a) :: st) n m r ce sl Q := by
  intro p l e s mid args below meth c H locs ls C R hf hL
  subst e1; subst e2; subst e3
  obtain ⟨hx, hb, -, hml, hown, hts, -, -, ⟨hK, -⟩, -⟩ := id C
  have hc0 : H[xk_ad E a]? = some (arrV (E.2.1 0) la (fun j => .int (m a j))) := xk_arr R hka ha han
  have hc1 : H[xk_ad E b]? = some (arrV (E.2.1 0) lb (fun j => .int (m b j))) := xk_arr R hkb hb1 hbn
  obtain ⟨-, k0, hk0, cm0, hkk0⟩ := (hK.2 0 _ rfl).1 la (fun j => .int (m a j))
  obtain ⟨-, k1, hk1, cm1, hkk1⟩ := (hK.2 0 _ rfl).1 lb (fun j => .int (m b j))
  have s1 := nI_clamp (n := sp) (by omega)
  have s2 := nI_clamp (n := dp) (by omega)
  have s3 := nI_clamp (n := k) (by omega)
  have t1 := nI_toInt (n := sp) (by omega)
  have t2 := nI_toInt (n := dp) (by omega)
  have t3 := nI_toInt (n := k) (by omega)
  intro T hT X
  obtain ⟨vm', X', step⟩ := X.arraycopy hx hown (hts _ h1) (hts _ h2) (hts _ h3) (hts _ h4) (src := xk_ad E a) (dst := xk_ad E b) (cs := arrV (E.2.1 0) la (fun j => .int (m a j))) (cd := arrV (E.2.1 0) lb (fun j => .int (m b j))) (srcPos := nI sp) (destPos := nI dp) (n := nI k) (by rw [hT]; exact hc0) (by rw [hT]; exact hc1)
    (fun _ h => by cases h) (fun _ h => by cases h) (fun h => by cases h) (fun h => by cases h) hk0 hk1 hkk0 hkk1 (by rfl) (nI_pos (by omega)) (nI_pos (by omega)) (nI_pos (by omega))
    (by rw [t1, t3, arrV_size]; omega) (by rw [t2, t3, arrV_size]; omega)
    (fun vm₁ _ i hi => by
      rw [s3] at hi
      have e : (arrV (E.2.1 0) la (fun j => .int (m a j))).slots.getD ((nI sp).toNatClampNeg + i) .null = .int (m a (sp + i)) := by
        rw [s1, Array.getD_eq_getD_getElem?, arrV_read _ _ (by omega)]
        rfl
      rw [e]
      exact ⟨rfl, trivial⟩)
    (g := F0 mid pc ls (.int (nI k) :: .int (nI dp) :: .ref (xk_ad E b) :: .int (nI sp) :: .ref (xk_ad E a) :: st.map (xk_v E))) rfl (by rw [hml]; exact hL.1) (rest := st.map (xk_v E)) rfl (by rw [hb]; exact hd) hfr (by
      have : (F0 mid pc ls (.int (nI k) :: .int (nI dp) :: .ref (xk_ad E b) :: .int (nI sp) :: .ref (xk_ad E a) :: st.map (xk_v E))).monitorRoom = 0 := rfl
      rw [this, xk_sum]
      omega)
  have ec : copied (arrV (E.2.1 0) la (fun j => .int (m a j))) (arrV (E.2.1 0) lb (fun j => .int (m b j))) (nI sp) (nI dp) (nI k) = arrV (E.2.1 0) lb (fun j => .int (va_cpy (m a) (m b) (nI sp).toNatClampNeg (nI dp).toNatClampNeg (nI k).toNatClampNeg j)) := va_copied (fun z => Value.int z) (E.2.1 0) (E.2.1 0) (m a) (m b) (by rw [s1, s3]; exact hla)
  rw [ec, s1, s2, s3] at X' step
  have hl : xk_ad E b < H.size := (Array.getElem?_eq_some_iff.mp hc1).1
  have hheap : ((T.setVm vm').setCell (xk_ad E b) (arrV (E.2.1 0) lb (fun j => .int (va_cpy (m a) (m b) sp dp k j)))).heap = H.setIfInBounds (xk_ad E b) (arrV (E.2.1 0) lb (fun j => .int (va_cpy (m a) (m b) sp dp k j))) := by rw [← hT]; rfl
  have hm' : ∀ j, xk_cp m a b sp dp k b j = va_cpy (m a) (m b) sp dp k j := fun j => by
    unfold xk_cp va_cpy
    by_cases h : dp ≤ j ∧ j < dp + k
    · rw [if_pos ⟨rfl, h⟩, if_pos h]
    · rw [if_neg (fun q => h q.2), if_neg h]
  obtain ⟨t, a1, b1⟩ := K p l e s mid args below meth c _ (locs ++ ((arrV (E.2.1 0) la (fun j => .int (m a j))).stretch sp k).zipIdx.map (fun q => (⟨xk_ad E b, dp + q.2⟩ : Loc))) ls C (R.upd (m' := xk_cp m a b sp dp k) (r' := r) hb1 hbn (H' := H.setIfInBounds (xk_ad E b) (arrV (E.2.1 0) lb (fun j => .int (va_cpy (m a) (m b) sp dp k j)))) (by simp) (fun q hq => by simp [Array.getElem?_setIfInBounds, Ne.symm hq]) (fun c hc => by funext j; unfold xk_cp; rw [if_neg (fun q => hc q.1)]) (fun _ _ => rfl) (by
      unfold xk_cell
      rw [hkb]
      show (H.setIfInBounds (xk_ad E b) _)[xk_ad E b]? = _
      rw [Array.getElem?_setIfInBounds, if_pos rfl, if_pos hl]
      congr 2
      funext j
      show Value.int _ = Value.int (xk_cp m a b sp dp k b j)
      rw [hm'])) (fun q hq => by
      rcases List.mem_append.mp hq with h | h
      · exact hf q h
      · obtain ⟨z, -, hz⟩ := List.mem_map.mp h
        rw [← hz]
        exact xk_ad_fr hb1) hL _ hheap X'
  exact ⟨t, step t a1, b1⟩
theorem xk_sld {i : Nat} {j : Int32} (hd : decode (xk_B y) pc = .ok (.iaload, 1)) (hj : j = nI i) (hi : i < E.2.2.2.2.2.1) (hlen : E.2.2.2.2.2.1 < 2 ^ 31) (K : xk_W E y (pc + 1) Lc (.inl (E.2.2.2.2.2.2 i) :: st) n m r ce sl Q) : xk_W E y pc Lc (.inl j :: .inr (some 0) :: st) n m r ce sl Q := by
  intro p l e s mid args below meth c H locs ls C R hf hL
  subst hj
  have hc := nI_clamp (n := i) (by omega)
  obtain ⟨h2, h3, h4, h5⟩ := C.2.2.2.2.2.2.2.2.1.2.1
  exact W.iald (v := .int (E.2.2.2.2.2.2 i)) C.1 C.2.1 R.2.2.2.1.1 h2 h3 (by rw [h4]; exact nI_in hi hlen) (by rw [hc]; exact h5 i hi) rfl rfl hd (K p l e s mid args below meth c H locs ls C R hf hL)
theorem xk_slen (hd : decode (xk_B y) pc = .ok (.arraylength, 1)) (K : xk_W E y (pc + 1) Lc (.inl (nI E.2.2.2.2.2.1) :: st) n m r ce sl Q) : xk_W E y pc Lc (.inr (some 0) :: st) n m r ce sl Q := by
  intro p l e s mid args below meth c H locs ls C R hf hL
  obtain ⟨h2, h3, h4, h5⟩ := C.2.2.2.2.2.2.2.2.1.2.1
  exact W.alen (n := nI E.2.2.2.2.2.1) C.1 C.2.1 R.2.2.2.1.1 h2 (by rw [h4]; rfl) rfl rfl hd (K p l e s mid args below meth c H locs ls C R hf hL)
theorem xk_alen {a t len : Nat} (hd : decode (xk_B y) pc = .ok (.arraylength, 1)) (hk : xk_kd a = .inr (t, len)) (ht : t < 5) (ha : 1 ≤ a) (hn : a < n) (K : xk_W E y (pc + 1) Lc (.inl (nI len) :: st) n m r ce sl Q) : xk_W E y pc Lc (.inr (some a) :: st) n m r ce sl Q := by
  intro p l e s mid args below meth c H locs ls C R hf hL
  have e1 : (xk_tys E)[t]? = some (E.2.1 t, xk_aty t) := by
    rcases (by omega : t = 0 ∨ t = 1 ∨ t = 2 ∨ t = 3 ∨ t = 4) with rfl | rfl | rfl | rfl | rfl <;> rfl
  exact W.alen (n := nI len) C.1 C.2.1 (xk_arr R hk ha hn) ((C.2.2.2.2.2.2.2.2.1.1.2 t _ e1).1 len _) (by rw [arrV_size]; rfl) rfl rfl hd (K p l e s mid args below meth c H locs ls C R hf hL)
end XD
end
section
/-! the machine over natural numbers, and calls by the number of arguments -/
section XN
variable {E : xk_E} {y : xk_Y} {pc n ce sl : Nat} {Lc : List (Option xk_V)} {st : List xk_V} {m : xk_M} {r : xk_P} {Q : xk_Q}
theorem xk_iaddN {a b : Nat} (hd : decode (xk_B y) pc = .ok (.iadd, 1)) (K : xk_W E y (pc + 1) Lc (.inl (nI (a + b)) :: st) n m r ce sl Q) : xk_W E y pc Lc (.inl (nI b) :: .inl (nI a) :: st) n m r ce sl Q := xk_iadd hd (by rw [nI_add]; exact K)
theorem xk_isubN {a b : Nat} (hd : decode (xk_B y) pc = .ok (.isub, 1)) (h : b ≤ a) (K : xk_W E y (pc + 1) Lc (.inl (nI (a - b)) :: st) n m r ce sl Q) : xk_W E y pc Lc (.inl (nI b) :: .inl (nI a) :: st) n m r ce sl Q := xk_isub hd (by rw [pk_sub h]; exact K)
theorem xk_imulN {a b : Nat} (hd : decode (xk_B y) pc = .ok (.imul, 1)) (K : xk_W E y (pc + 1) Lc (.inl (nI (a * b)) :: st) n m r ce sl Q) : xk_W E y pc Lc (.inl (nI b) :: .inl (nI a) :: st) n m r ce sl Q := xk_imul hd (by rw [pk_mul]; exact K)
theorem xk_idivN {a b : Nat} (hd : decode (xk_B y) pc = .ok (.idiv, 1)) (h0 : 0 < b) (ha : a < 2 ^ 31) (hb : b < 2 ^ 31) (K : xk_W E y (pc + 1) Lc (.inl (nI (a / b)) :: st) n m r ce sl Q) : xk_W E y pc Lc (.inl (nI b) :: .inl (nI a) :: st) n m r ce sl Q := xk_idiv hd (nI_ne0 h0 hb) (by rw [pk_div ha h0 hb]; exact K)
theorem xk_iremN {a b : Nat} (hd : decode (xk_B y) pc = .ok (.irem, 1)) (h0 : 0 < b) (ha : a < 2 ^ 31) (hb : b < 2 ^ 31) (K : xk_W E y (pc + 1) Lc (.inl (nI (a % b)) :: st) n m r ce sl Q) : xk_W E y pc Lc (.inl (nI b) :: .inl (nI a) :: st) n m r ce sl Q := xk_irem hd (nI_ne0 h0 hb) (by rw [pk_rem ha h0 hb]; exact K)
theorem xk_iincN {k a d : Nat} (hd : decode (xk_B y) pc = .ok (.iinc k (d : Int), 3)) (hl : Lc[k]? = some (some (.inl (nI a)))) (K : xk_W E y (pc + 3) (Lc.set k (some (.inl (nI (a + d))))) st n m r ce sl Q) : xk_W E y pc Lc st n m r ce sl Q := xk_iinc hd hl (by rw [← nI_add]; rfl) K
theorem xk_iincM {k a : Nat} (hd : decode (xk_B y) pc = .ok (.iinc k (-1), 3)) (hl : Lc[k]? = some (some (.inl (nI (a + 1))))) (K : xk_W E y (pc + 3) (Lc.set k (some (.inl (nI a)))) st n m r ce sl Q) : xk_W E y pc Lc st n m r ce sl Q := xk_iinc hd hl (pk_m1 a) K
theorem xk_icmp_eqN {a b : Nat} {off : Int} {tgt : Nat} (hd : decode (xk_B y) pc = .ok (.if_icmp .eq off, 3)) (ht : (pc : Int) + off = (tgt : Int)) (ha : a < 2 ^ 31) (hb : b < 2 ^ 31) (kt : a = b → xk_W E y tgt Lc st n m r ce sl Q) (kf : ¬ a = b → xk_W E y (pc + 3) Lc st n m r ce sl Q) : xk_W E y pc Lc (.inl (nI b) :: .inl (nI a) :: st) n m r ce sl Q :=
  xk_icmp_eq hd ht (fun h => kt ((nI_eq ha hb).mp h)) (fun h => kf (fun q => h ((nI_eq ha hb).mpr q)))
theorem xk_icmp_neN {a b : Nat} {off : Int} {tgt : Nat} (hd : decode (xk_B y) pc = .ok (.if_icmp .ne off, 3)) (ht : (pc : Int) + off = (tgt : Int)) (ha : a < 2 ^ 31) (hb : b < 2 ^ 31) (kt : ¬ a = b → xk_W E y tgt Lc st n m r ce sl Q) (kf : a = b → xk_W E y (pc + 3) Lc st n m r ce sl Q) : xk_W E y pc Lc (.inl (nI b) :: .inl (nI a) :: st) n m r ce sl Q :=
  xk_icmp_ne hd ht (fun h => kt (fun q => h ((nI_eq ha hb).mpr q))) (fun h => kf ((nI_eq ha hb).mp h))
theorem xk_icmp_ltN {a b : Nat} {off : Int} {tgt : Nat} (hd : decode (xk_B y) pc = .ok (.if_icmp .lt off, 3)) (ht : (pc : Int) + off = (tgt : Int)) (ha : a < 2 ^ 31) (hb : b < 2 ^ 31) (kt : a < b → xk_W E y tgt Lc st n m r ce sl Q) (kf : b ≤ a → xk_W E y (pc + 3) Lc st n m r ce sl Q) : xk_W E y pc Lc (.inl (nI b) :: .inl (nI a) :: st) n m r ce sl Q :=
  xk_icmp_lt hd ht (fun h => kt ((nI_ltI ha hb).mp h)) (fun h => kf (Nat.le_of_not_lt (fun q => h ((nI_ltI ha hb).mpr q))))
theorem xk_icmp_geN {a b : Nat} {off : Int} {tgt : Nat} (hd : decode (xk_B y) pc = .ok (.if_icmp .ge off, 3)) (ht : (pc : Int) + off = (tgt : Int)) (ha : a < 2 ^ 31) (hb : b < 2 ^ 31) (kt : b ≤ a → xk_W E y tgt Lc st n m r ce sl Q) (kf : a < b → xk_W E y (pc + 3) Lc st n m r ce sl Q) : xk_W E y pc Lc (.inl (nI b) :: .inl (nI a) :: st) n m r ce sl Q :=
  xk_icmp_ge hd ht (fun h => kt ((nI_leI hb ha).mp h)) (fun h => kf (Nat.lt_of_not_le (fun q => h ((nI_leI hb ha).mpr q))))
theorem xk_icmp_gtN {a b : Nat} {off : Int} {tgt : Nat} (hd : decode (xk_B y) pc = .ok (.if_icmp .gt off, 3)) (ht : (pc : Int) + off = (tgt : Int)) (ha : a < 2 ^ 31) (hb : b < 2 ^ 31) (kt : b < a → xk_W E y tgt Lc st n m r ce sl Q) (kf : a ≤ b → xk_W E y (pc + 3) Lc st n m r ce sl Q) : xk_W E y pc Lc (.inl (nI b) :: .inl (nI a) :: st) n m r ce sl Q :=
  xk_icmp_gt hd ht (fun h => kt ((nI_ltI hb ha).mp h)) (fun h => kf (Nat.le_of_not_lt (fun q => h ((nI_ltI hb ha).mpr q))))
theorem xk_icmp_leN {a b : Nat} {off : Int} {tgt : Nat} (hd : decode (xk_B y) pc = .ok (.if_icmp .le off, 3)) (ht : (pc : Int) + off = (tgt : Int)) (ha : a < 2 ^ 31) (hb : b < 2 ^ 31) (kt : a ≤ b → xk_W E y tgt Lc st n m r ce sl Q) (kf : b < a → xk_W E y (pc + 3) Lc st n m r ce sl Q) : xk_W E y pc Lc (.inl (nI b) :: .inl (nI a) :: st) n m r ce sl Q :=
  xk_icmp_le hd ht (fun h => kt ((nI_leI ha hb).mp h)) (fun h => kf (Nat.lt_of_not_le (fun q => h ((nI_leI ha hb).mpr q))))
theorem xk_if_eqN {a : Nat} {off : Int} {tgt : Nat} (hd : decode (xk_B y) pc = .ok (.ifCond .eq off, 3)) (ht : (pc : Int) + off = (tgt : Int)) (ha : a < 2 ^ 31) (kt : a = 0 → xk_W E y tgt Lc st n m r ce sl Q) (kf : ¬ a = 0 → xk_W E y (pc + 3) Lc st n m r ce sl Q) : xk_W E y pc Lc (.inl (nI a) :: st) n m r ce sl Q :=
  xk_if_eq hd ht (fun h => kt ((nI_eq ha (by decide)).mp (h.trans nI_0.symm))) (fun h => kf (fun q => h (by rw [q]; exact nI_0)))
theorem xk_if_neN {a : Nat} {off : Int} {tgt : Nat} (hd : decode (xk_B y) pc = .ok (.ifCond .ne off, 3)) (ht : (pc : Int) + off = (tgt : Int)) (ha : a < 2 ^ 31) (kt : ¬ a = 0 → xk_W E y tgt Lc st n m r ce sl Q) (kf : a = 0 → xk_W E y (pc + 3) Lc st n m r ce sl Q) : xk_W E y pc Lc (.inl (nI a) :: st) n m r ce sl Q :=
  xk_if_ne hd ht (fun h => kt (fun q => h (by rw [q]; exact nI_0))) (fun h => kf ((nI_eq ha (by decide)).mp (h.trans nI_0.symm)))
theorem xk_if_leN {a : Nat} {off : Int} {tgt : Nat} (hd : decode (xk_B y) pc = .ok (.ifCond .le off, 3)) (ht : (pc : Int) + off = (tgt : Int)) (ha : a < 2 ^ 31) (kt : a = 0 → xk_W E y tgt Lc st n m r ce sl Q) (kf : 0 < a → xk_W E y (pc + 3) Lc st n m r ce sl Q) : xk_W E y pc Lc (.inl (nI a) :: st) n m r ce sl Q :=
  xk_if_le hd ht (fun h => kt (Nat.le_zero.mp ((nI_leI ha (by decide)).mp (by rw [nI_0]; exact h)))) (fun h => kf (Nat.pos_of_ne_zero (fun q => h (by rw [q, nI_0]; exact Int32.le_refl 0))))
theorem xk_if_gtN {a : Nat} {off : Int} {tgt : Nat} (hd : decode (xk_B y) pc = .ok (.ifCond .gt off, 3)) (ht : (pc : Int) + off = (tgt : Int)) (ha : a < 2 ^ 31) (kt : 0 < a → xk_W E y tgt Lc st n m r ce sl Q) (kf : a = 0 → xk_W E y (pc + 3) Lc st n m r ce sl Q) : xk_W E y pc Lc (.inl (nI a) :: st) n m r ce sl Q :=
  xk_if_gt hd ht (fun h => kt (Nat.pos_of_ne_zero (fun q => by rw [q, nI_0] at h; exact absurd h (by decide)))) (fun h => kf (Nat.eq_zero_of_not_pos (fun q => h (by rw [← nI_0]; exact nI_lt q ha))))
theorem xk_if_ltN {a : Nat} {off : Int} {tgt : Nat} (hd : decode (xk_B y) pc = .ok (.ifCond .lt off, 3)) (ht : (pc : Int) + off = (tgt : Int)) (ha : a < 2 ^ 31) (kf : xk_W E y (pc + 3) Lc st n m r ce sl Q) : xk_W E y pc Lc (.inl (nI a) :: st) n m r ce sl Q :=
  xk_if_lt hd ht (fun h => absurd h (nI_pos ha)) (fun _ => kf)
theorem xk_if_geN {a : Nat} {off : Int} {tgt : Nat} (hd : decode (xk_B y) pc = .ok (.ifCond .ge off, 3)) (ht : (pc : Int) + off = (tgt : Int)) (ha : a < 2 ^ 31) (kt : xk_W E y tgt Lc st n m r ce sl Q) : xk_W E y pc Lc (.inl (nI a) :: st) n m r ce sl Q :=
  xk_if_ge hd ht (fun _ => kt) (fun h => absurd (nI_pos' ha) h)
/-- a callee that makes no cell, by its words: its class number, its arguments -/
def xk_CV (z : xk_Y) (ci np : Nat) : Prop := xk_mok z np ∧ Cond.instanceMethod (xk_N z) ∈ xk_kt ∧ Cond.selects (xk_cls z) (xk_N z) (xk_N z) ∈ xk_kt ∧ (∃ q : vw_C, xk_cl[ci]? = some q ∧ q.1 = xk_cls z) ∧ np + 1 ≤ xk_L z
def xk_CS (z : xk_Y) (np : Nat) : Prop := xk_mok z np ∧ Cond.static (xk_N z) ∈ xk_kt ∧ np ≤ xk_L z
def xk_CI (z : xk_Y) (np : Nat) : Prop := xk_mok z np ∧ xk_ret z = none ∧ (xk_N z).name = "<init>" ∧ Cond.instanceMethod (xk_N z) ∈ xk_kt ∧ np + 1 ≤ xk_L z
/-- what goes on behind a call of a method that makes no cell -/
def xk_go (E : xk_E) (y : xk_Y) (pc : Nat) (Lc : List (Option xk_V)) (st : List xk_V) (ce sl : Nat) (Q : xk_Q) : xk_Q := fun v n' m' r' => xk_W E y pc Lc (v.toList ++ st) n' m' r' ce sl Q
theorem xk_cV {z : xk_Y} {idx np ci a : Nat} {as : List xk_V} (hd : decode (xk_B y) pc = .ok (.invokevirtual idx, 3)) (hl : xk_ML (xk_cls y) idx z) (hz : xk_CV z ci np) (h0 : (xk_Rm z).cells = 0 ∧ (xk_Rm z).slots = 0) (hroom : xk_room y z = true)
    (hk : xk_kd a = .inl ci) (ha : 1 ≤ a) (hn : a < n) (has : as.length = np) (hst : st.length ≤ 8) (hc : ce ≤ (xk_Rm y).cells ∧ sl ≤ (xk_Rm y).slots)
    (B : xk_W E z 0 (xk_ent z (.inr (some a) :: as)) [] n m r 0 0 (xk_go E y (pc + 3) Lc st ce sl Q)) : xk_W E y pc Lc (as.reverse ++ .inr (some a) :: st) n m r ce sl Q := by
  obtain ⟨z1, z2, z3, ⟨q, z4, z5⟩, z6⟩ := hz
  refine xk_callV hd hl z1 z2 z3 hroom hk z4 z5 ha hn has z6 hst (by rw [h0.1]; exact hc.1) (by rw [h0.2]; exact hc.2) ?_
  rw [h0.1, h0.2]
  exact B
theorem xk_cS {z : xk_Y} {idx np : Nat} {as : List xk_V} (hd : decode (xk_B y) pc = .ok (.invokestatic idx, 3)) (hl : xk_ML (xk_cls y) idx z) (hz : xk_CS z np) (h0 : (xk_Rm z).cells = 0 ∧ (xk_Rm z).slots = 0) (hroom : xk_room y z = true)
    (has : as.length = np) (hst : st.length ≤ 8) (hc : ce ≤ (xk_Rm y).cells ∧ sl ≤ (xk_Rm y).slots)
    (B : xk_W E z 0 (xk_ent z as) [] n m r 0 0 (xk_go E y (pc + 3) Lc st ce sl Q)) : xk_W E y pc Lc (as.reverse ++ st) n m r ce sl Q := by
  obtain ⟨z1, z2, z3⟩ := hz
  refine xk_callS hd hl z1 z2 hroom has z3 hst (by rw [h0.1]; exact hc.1) (by rw [h0.2]; exact hc.2) ?_
  rw [h0.1, h0.2]
  exact B
theorem xk_cV0 {z : xk_Y} {idx ci a : Nat} (hd : decode (xk_B y) pc = .ok (.invokevirtual idx, 3)) (hl : xk_ML (xk_cls y) idx z) (hz : xk_CV z ci 0) (h0 : (xk_Rm z).cells = 0 ∧ (xk_Rm z).slots = 0) (hroom : xk_room y z = true) (hk : xk_kd a = .inl ci) (ha : 1 ≤ a) (hn : a < n) (hst : st.length ≤ 8) (hc : ce ≤ (xk_Rm y).cells ∧ sl ≤ (xk_Rm y).slots)
    (B : xk_W E z 0 (xk_ent z (.inr (some a) :: [])) [] n m r 0 0 (xk_go E y (pc + 3) Lc st ce sl Q)) : xk_W E y pc Lc (.inr (some a) :: st) n m r ce sl Q := xk_cV (as := []) hd hl hz h0 hroom hk ha hn rfl hst hc B
theorem xk_cV1 {v1 : xk_V} {z : xk_Y} {idx ci a : Nat} (hd : decode (xk_B y) pc = .ok (.invokevirtual idx, 3)) (hl : xk_ML (xk_cls y) idx z) (hz : xk_CV z ci 1) (h0 : (xk_Rm z).cells = 0 ∧ (xk_Rm z).slots = 0) (hroom : xk_room y z = true) (hk : xk_kd a = .inl ci) (ha : 1 ≤ a) (hn : a < n) (hst : st.length ≤ 8) (hc : ce ≤ (xk_Rm y).cells ∧ sl ≤ (xk_Rm y).slots)
    (B : xk_W E z 0 (xk_ent z (.inr (some a) :: [v1])) [] n m r 0 0 (xk_go E y (pc + 3) Lc st ce sl Q)) : xk_W E y pc Lc (v1 :: .inr (some a) :: st) n m r ce sl Q := xk_cV (as := [v1]) hd hl hz h0 hroom hk ha hn rfl hst hc B
theorem xk_cV2 {v1 v2 : xk_V} {z : xk_Y} {idx ci a : Nat} (hd : decode (xk_B y) pc = .ok (.invokevirtual idx, 3)) (hl : xk_ML (xk_cls y) idx z) (hz : xk_CV z ci 2) (h0 : (xk_Rm z).cells = 0 ∧ (xk_Rm z).slots = 0) (hroom : xk_room y z = true) (hk : xk_kd a = .inl ci) (ha : 1 ≤ a) (hn : a < n) (hst : st.length ≤ 8) (hc : ce ≤ (xk_Rm y).cells ∧ sl ≤ (xk_Rm y).slots)
    (B : xk_W E z 0 (xk_ent z (.inr (some a) :: [v1, v2])) [] n m r 0 0 (xk_go E y (pc + 3) Lc st ce sl Q)) : xk_W E y pc Lc (v2 :: v1 :: .inr (some a) :: st) n m r ce sl Q := xk_cV (as := [v1, v2]) hd hl hz h0 hroom hk ha hn rfl hst hc B
theorem xk_cV3 {v1 v2 v3 : xk_V} {z : xk_Y} {idx ci a : Nat} (hd : decode (xk_B y) pc = .ok (.invokevirtual idx, 3)) (hl : xk_ML (xk_cls y) idx z) (hz : xk_CV z ci 3) (h0 : (xk_Rm z).cells = 0 ∧ (xk_Rm z).slots = 0) (hroom : xk_room y z = true) (hk : xk_kd a = .inl ci) (ha : 1 ≤ a) (hn : a < n) (hst : st.length ≤ 8) (hc : ce ≤ (xk_Rm y).cells ∧ sl ≤ (xk_Rm y).slots)
    (B : xk_W E z 0 (xk_ent z (.inr (some a) :: [v1, v2, v3])) [] n m r 0 0 (xk_go E y (pc + 3) Lc st ce sl Q)) : xk_W E y pc Lc (v3 :: v2 :: v1 :: .inr (some a) :: st) n m r ce sl Q := xk_cV (as := [v1, v2, v3]) hd hl hz h0 hroom hk ha hn rfl hst hc B
theorem xk_cV4 {v1 v2 v3 v4 : xk_V} {z : xk_Y} {idx ci a : Nat} (hd : decode (xk_B y) pc = .ok (.invokevirtual idx, 3)) (hl : xk_ML (xk_cls y) idx z) (hz : xk_CV z ci 4) (h0 : (xk_Rm z).cells = 0 ∧ (xk_Rm z).slots = 0) (hroom : xk_room y z = true) (hk : xk_kd a = .inl ci) (ha : 1 ≤ a) (hn : a < n) (hst : st.length ≤ 8) (hc : ce ≤ (xk_Rm y).cells ∧ sl ≤ (xk_Rm y).slots)
    (B : xk_W E z 0 (xk_ent z (.inr (some a) :: [v1, v2, v3, v4])) [] n m r 0 0 (xk_go E y (pc + 3) Lc st ce sl Q)) : xk_W E y pc Lc (v4 :: v3 :: v2 :: v1 :: .inr (some a) :: st) n m r ce sl Q := xk_cV (as := [v1, v2, v3, v4]) hd hl hz h0 hroom hk ha hn rfl hst hc B
theorem xk_cS1 {v1 : xk_V} {z : xk_Y} {idx : Nat} (hd : decode (xk_B y) pc = .ok (.invokestatic idx, 3)) (hl : xk_ML (xk_cls y) idx z) (hz : xk_CS z 1) (h0 : (xk_Rm z).cells = 0 ∧ (xk_Rm z).slots = 0) (hroom : xk_room y z = true) (hst : st.length ≤ 8) (hc : ce ≤ (xk_Rm y).cells ∧ sl ≤ (xk_Rm y).slots)
    (B : xk_W E z 0 (xk_ent z [v1]) [] n m r 0 0 (xk_go E y (pc + 3) Lc st ce sl Q)) : xk_W E y pc Lc (v1 :: st) n m r ce sl Q := xk_cS (as := [v1]) hd hl hz h0 hroom rfl hst hc B
theorem xk_cS2 {v1 v2 : xk_V} {z : xk_Y} {idx : Nat} (hd : decode (xk_B y) pc = .ok (.invokestatic idx, 3)) (hl : xk_ML (xk_cls y) idx z) (hz : xk_CS z 2) (h0 : (xk_Rm z).cells = 0 ∧ (xk_Rm z).slots = 0) (hroom : xk_room y z = true) (hst : st.length ≤ 8) (hc : ce ≤ (xk_Rm y).cells ∧ sl ≤ (xk_Rm y).slots)
    (B : xk_W E z 0 (xk_ent z [v1, v2]) [] n m r 0 0 (xk_go E y (pc + 3) Lc st ce sl Q)) : xk_W E y pc Lc (v2 :: v1 :: st) n m r ce sl Q := xk_cS (as := [v1, v2]) hd hl hz h0 hroom rfl hst hc B
theorem xk_cS3 {v1 v2 v3 : xk_V} {z : xk_Y} {idx : Nat} (hd : decode (xk_B y) pc = .ok (.invokestatic idx, 3)) (hl : xk_ML (xk_cls y) idx z) (hz : xk_CS z 3) (h0 : (xk_Rm z).cells = 0 ∧ (xk_Rm z).slots = 0) (hroom : xk_room y z = true) (hst : st.length ≤ 8) (hc : ce ≤ (xk_Rm y).cells ∧ sl ≤ (xk_Rm y).slots)
    (B : xk_W E z 0 (xk_ent z [v1, v2, v3]) [] n m r 0 0 (xk_go E y (pc + 3) Lc st ce sl Q)) : xk_W E y pc Lc (v3 :: v2 :: v1 :: st) n m r ce sl Q := xk_cS (as := [v1, v2, v3]) hd hl hz h0 hroom rfl hst hc B
theorem xk_cS4 {v1 v2 v3 v4 : xk_V} {z : xk_Y} {idx : Nat} (hd : decode (xk_B y) pc = .ok (.invokestatic idx, 3)) (hl : xk_ML (xk_cls y) idx z) (hz : xk_CS z 4) (h0 : (xk_Rm z).cells = 0 ∧ (xk_Rm z).slots = 0) (hroom : xk_room y z = true) (hst : st.length ≤ 8) (hc : ce ≤ (xk_Rm y).cells ∧ sl ≤ (xk_Rm y).slots)
    (B : xk_W E z 0 (xk_ent z [v1, v2, v3, v4]) [] n m r 0 0 (xk_go E y (pc + 3) Lc st ce sl Q)) : xk_W E y pc Lc (v4 :: v3 :: v2 :: v1 :: st) n m r ce sl Q := xk_cS (as := [v1, v2, v3, v4]) hd hl hz h0 hroom rfl hst hc B
theorem xk_getRo {idx ci k a : Nat} {o : Option Nat} (hd : decode (xk_B y) pc = .ok (.getfield idx, 3)) (hl : xk_FL (xk_cls y) idx ci k) (hk : xk_kd a = .inl ci) (hr : xk_rf ci k = true) (ha : 1 ≤ a) (hn : a < n) (ho : r a k = o) (K : xk_W E y (pc + 3) Lc (.inr o :: st) n m r ce sl Q) : xk_W E y pc Lc (.inr (some a) :: st) n m r ce sl Q := xk_getR hd hl hk hr ha hn (by rw [ho]; exact K)
theorem xk_getIo {idx ci k a : Nat} {x : Int32} (hd : decode (xk_B y) pc = .ok (.getfield idx, 3)) (hl : xk_FL (xk_cls y) idx ci k) (hk : xk_kd a = .inl ci) (hr : xk_rf ci k = false) (ha : 1 ≤ a) (hn : a < n) (ho : m a k = x) (K : xk_W E y (pc + 3) Lc (.inl x :: st) n m r ce sl Q) : xk_W E y pc Lc (.inr (some a) :: st) n m r ce sl Q := xk_getI hd hl hk hr ha hn (by rw [ho]; exact K)
theorem xk_ialoado {a len i : Nat} {j x : Int32} (hd : decode (xk_B y) pc = .ok (.iaload, 1)) (hk : xk_kd a = .inr (0, len)) (ha : 1 ≤ a) (hn : a < n) (hj : j = nI i) (hi : i < len) (hlen : len < 2 ^ 31) (ho : m a i = x) (K : xk_W E y (pc + 1) Lc (.inl x :: st) n m r ce sl Q) : xk_W E y pc Lc (.inl j :: .inr (some a) :: st) n m r ce sl Q := xk_iaload hd hk ha hn hj hi hlen (by rw [ho]; exact K)
theorem xk_baloado {a len i : Nat} {j x : Int32} (hd : decode (xk_B y) pc = .ok (.baload, 1)) (hk : xk_kd a = .inr (1, len)) (ha : 1 ≤ a) (hn : a < n) (hj : j = nI i) (hi : i < len) (hlen : len < 2 ^ 31) (ho : m a i = x) (K : xk_W E y (pc + 1) Lc (.inl x :: st) n m r ce sl Q) : xk_W E y pc Lc (.inl j :: .inr (some a) :: st) n m r ce sl Q := xk_baload hd hk ha hn hj hi hlen (by rw [ho]; exact K)
theorem xk_aaloado {a t len i : Nat} {j : Int32} {o : Option Nat} (hd : decode (xk_B y) pc = .ok (.aaload, 1)) (hk : xk_kd a = .inr (t, len)) (h2 : 2 ≤ t) (h5 : t < 5) (ha : 1 ≤ a) (hn : a < n) (hj : j = nI i) (hi : i < len) (hlen : len < 2 ^ 31) (ho : r a i = o) (K : xk_W E y (pc + 1) Lc (.inr o :: st) n m r ce sl Q) : xk_W E y pc Lc (.inl j :: .inr (some a) :: st) n m r ce sl Q := xk_aaload hd hk h2 h5 ha hn hj hi hlen (by rw [ho]; exact K)
end XN
end
section
/-! links, by program -/
theorem fl_K_10 : xk_FL "SandKernel" 10 6 0 := ⟨_, rfl, by decide, Or.inl (xk_in (List.mem_of_getElem? (i := 186) (by decide +kernel)) rfl)⟩
theorem fl_K_21 : xk_FL "SandKernel" 21 6 1 := ⟨_, rfl, by decide, Or.inl (xk_in (List.mem_of_getElem? (i := 187) (by decide +kernel)) rfl)⟩
theorem fl_K_25 : xk_FL "SandKernel" 25 6 2 := ⟨_, rfl, by decide, Or.inl (xk_in (List.mem_of_getElem? (i := 188) (by decide +kernel)) rfl)⟩
theorem fl_K_37 : xk_FL "SandKernel" 37 6 3 := ⟨_, rfl, by decide, Or.inl (xk_in (List.mem_of_getElem? (i := 189) (by decide +kernel)) rfl)⟩
theorem fl_K_44 : xk_FL "SandKernel" 44 6 4 := ⟨_, rfl, by decide, Or.inl (xk_in (List.mem_of_getElem? (i := 190) (by decide +kernel)) rfl)⟩
theorem fl_K_116 : xk_FL "SandKernel" 116 3 4 := ⟨_, rfl, by decide, Or.inr ⟨"SandKernel", List.mem_of_getElem? (i := 10) (by decide +kernel)⟩⟩
theorem fl_K_135 : xk_FL "SandKernel" 135 3 2 := ⟨_, rfl, by decide, Or.inr ⟨"SandKernel", List.mem_of_getElem? (i := 8) (by decide +kernel)⟩⟩
theorem fl_K_142 : xk_FL "SandKernel" 142 3 3 := ⟨_, rfl, by decide, Or.inr ⟨"SandKernel", List.mem_of_getElem? (i := 9) (by decide +kernel)⟩⟩
theorem fl_K_170 : xk_FL "SandKernel" 170 5 1 := ⟨_, rfl, by decide, Or.inr ⟨"SandKernel", List.mem_of_getElem? (i := 12) (by decide +kernel)⟩⟩
theorem fl_K_173 : xk_FL "SandKernel" 173 5 0 := ⟨_, rfl, by decide, Or.inr ⟨"SandKernel", List.mem_of_getElem? (i := 11) (by decide +kernel)⟩⟩
theorem fl_K_179 : xk_FL "SandKernel" 179 5 2 := ⟨_, rfl, by decide, Or.inr ⟨"SandKernel", List.mem_of_getElem? (i := 13) (by decide +kernel)⟩⟩
theorem fl_K_224 : xk_FL "SandKernel" 224 5 3 := ⟨_, rfl, by decide, Or.inr ⟨"SandKernel", List.mem_of_getElem? (i := 14) (by decide +kernel)⟩⟩
theorem fl_K_230 : xk_FL "SandKernel" 230 3 0 := ⟨_, rfl, by decide, Or.inr ⟨"SandKernel", List.mem_of_getElem? (i := 7) (by decide +kernel)⟩⟩
theorem fl_K_243 : xk_FL "SandKernel" 243 0 3 := ⟨_, rfl, by decide, Or.inr ⟨"SandKernel", List.mem_of_getElem? (i := 5) (by decide +kernel)⟩⟩
theorem fl_K_246 : xk_FL "SandKernel" 246 0 2 := ⟨_, rfl, by decide, Or.inr ⟨"SandKernel", List.mem_of_getElem? (i := 3) (by decide +kernel)⟩⟩
theorem fl_Block_9 : xk_FL "SandKernel$Block" 9 0 0 := ⟨_, rfl, by decide, Or.inl (xk_in (List.mem_of_getElem? (i := 94) (by decide +kernel)) rfl)⟩
theorem fl_Block_15 : xk_FL "SandKernel$Block" 15 0 1 := ⟨_, rfl, by decide, Or.inl (xk_in (List.mem_of_getElem? (i := 96) (by decide +kernel)) rfl)⟩
theorem fl_Block_18 : xk_FL "SandKernel$Block" 18 0 2 := ⟨_, rfl, by decide, Or.inl (xk_in (List.mem_of_getElem? (i := 98) (by decide +kernel)) rfl)⟩
theorem fl_Block_22 : xk_FL "SandKernel$Block" 22 0 3 := ⟨_, rfl, by decide, Or.inl (xk_in (List.mem_of_getElem? (i := 101) (by decide +kernel)) rfl)⟩
theorem fl_Cache_9 : xk_FL "SandKernel$Cache" 9 1 1 := ⟨_, rfl, by decide, Or.inl (xk_in (List.mem_of_getElem? (i := 114) (by decide +kernel)) rfl)⟩
theorem fl_Cache_17 : xk_FL "SandKernel$Cache" 17 1 2 := ⟨_, rfl, by decide, Or.inl (xk_in (List.mem_of_getElem? (i := 115) (by decide +kernel)) rfl)⟩
theorem fl_Cache_21 : xk_FL "SandKernel$Cache" 21 1 3 := ⟨_, rfl, by decide, Or.inl (xk_in (List.mem_of_getElem? (i := 116) (by decide +kernel)) rfl)⟩
theorem fl_Cache_25 : xk_FL "SandKernel$Cache" 25 1 0 := ⟨_, rfl, by decide, Or.inl (xk_in (List.mem_of_getElem? (i := 113) (by decide +kernel)) rfl)⟩
theorem fl_Cache_30 : xk_FL "SandKernel$Cache" 30 0 0 := ⟨_, rfl, by decide, Or.inr ⟨"SandKernel", List.mem_of_getElem? (i := 0) (by decide +kernel)⟩⟩
theorem fl_Cache_33 : xk_FL "SandKernel$Cache" 33 0 2 := ⟨_, rfl, by decide, Or.inr ⟨"SandKernel", List.mem_of_getElem? (i := 2) (by decide +kernel)⟩⟩
theorem fl_Cache_62 : xk_FL "SandKernel$Cache" 62 0 3 := ⟨_, rfl, by decide, Or.inr ⟨"SandKernel", List.mem_of_getElem? (i := 4) (by decide +kernel)⟩⟩
theorem fl_Cache_75 : xk_FL "SandKernel$Cache" 75 0 1 := ⟨_, rfl, by decide, Or.inr ⟨"SandKernel", List.mem_of_getElem? (i := 1) (by decide +kernel)⟩⟩
theorem fl_Host_9 : xk_FL "SandKernel$Host" 9 2 0 := ⟨_, rfl, by decide, Or.inl (xk_in (List.mem_of_getElem? (i := 60) (by decide +kernel)) rfl)⟩
theorem fl_Host_15 : xk_FL "SandKernel$Host" 15 2 1 := ⟨_, rfl, by decide, Or.inl (xk_in (List.mem_of_getElem? (i := 61) (by decide +kernel)) rfl)⟩
theorem fl_Host_19 : xk_FL "SandKernel$Host" 19 2 2 := ⟨_, rfl, by decide, Or.inl (xk_in (List.mem_of_getElem? (i := 62) (by decide +kernel)) rfl)⟩
theorem fl_Host_22 : xk_FL "SandKernel$Host" 22 2 3 := ⟨_, rfl, by decide, Or.inl (xk_in (List.mem_of_getElem? (i := 63) (by decide +kernel)) rfl)⟩
theorem fl_Host_25 : xk_FL "SandKernel$Host" 25 2 4 := ⟨_, rfl, by decide, Or.inl (xk_in (List.mem_of_getElem? (i := 64) (by decide +kernel)) rfl)⟩
theorem fl_Host_29 : xk_FL "SandKernel$Host" 29 2 5 := ⟨_, rfl, by decide, Or.inl (xk_in (List.mem_of_getElem? (i := 65) (by decide +kernel)) rfl)⟩
theorem fl_Opening_9 : xk_FL "SandKernel$Opening" 9 3 0 := ⟨_, rfl, by decide, Or.inl (xk_in (List.mem_of_getElem? (i := 136) (by decide +kernel)) rfl)⟩
theorem fl_Opening_15 : xk_FL "SandKernel$Opening" 15 3 1 := ⟨_, rfl, by decide, Or.inl (xk_in (List.mem_of_getElem? (i := 139) (by decide +kernel)) rfl)⟩
theorem fl_Opening_18 : xk_FL "SandKernel$Opening" 18 3 2 := ⟨_, rfl, by decide, Or.inl (xk_in (List.mem_of_getElem? (i := 140) (by decide +kernel)) rfl)⟩
theorem fl_Opening_21 : xk_FL "SandKernel$Opening" 21 3 3 := ⟨_, rfl, by decide, Or.inl (xk_in (List.mem_of_getElem? (i := 142) (by decide +kernel)) rfl)⟩
theorem fl_Opening_24 : xk_FL "SandKernel$Opening" 24 3 4 := ⟨_, rfl, by decide, Or.inl (xk_in (List.mem_of_getElem? (i := 144) (by decide +kernel)) rfl)⟩
theorem fl_Opening_36 : xk_FL "SandKernel$Opening" 36 4 3 := ⟨_, rfl, by decide, Or.inr ⟨"SandKernel", List.mem_of_getElem? (i := 15) (by decide +kernel)⟩⟩
theorem fl_Opening_42 : xk_FL "SandKernel$Opening" 42 4 4 := ⟨_, rfl, by decide, Or.inr ⟨"SandKernel", List.mem_of_getElem? (i := 16) (by decide +kernel)⟩⟩
theorem fl_Pipe_9 : xk_FL "SandKernel$Pipe" 9 4 0 := ⟨_, rfl, by decide, Or.inl (xk_in (List.mem_of_getElem? (i := 309) (by decide +kernel)) rfl)⟩
theorem fl_Pipe_15 : xk_FL "SandKernel$Pipe" 15 4 1 := ⟨_, rfl, by decide, Or.inl (xk_in (List.mem_of_getElem? (i := 310) (by decide +kernel)) rfl)⟩
theorem fl_Pipe_19 : xk_FL "SandKernel$Pipe" 19 4 2 := ⟨_, rfl, by decide, Or.inl (xk_in (List.mem_of_getElem? (i := 311) (by decide +kernel)) rfl)⟩
theorem fl_Pipe_22 : xk_FL "SandKernel$Pipe" 22 4 3 := ⟨_, rfl, by decide, Or.inl (xk_in (List.mem_of_getElem? (i := 312) (by decide +kernel)) rfl)⟩
theorem fl_Pipe_26 : xk_FL "SandKernel$Pipe" 26 4 4 := ⟨_, rfl, by decide, Or.inl (xk_in (List.mem_of_getElem? (i := 314) (by decide +kernel)) rfl)⟩
theorem fl_Task_11 : xk_FL "SandKernel$Task" 11 5 0 := ⟨_, rfl, by decide, Or.inl (xk_in (List.mem_of_getElem? (i := 165) (by decide +kernel)) rfl)⟩
theorem fl_Task_15 : xk_FL "SandKernel$Task" 15 5 1 := ⟨_, rfl, by decide, Or.inl (xk_in (List.mem_of_getElem? (i := 167) (by decide +kernel)) rfl)⟩
theorem fl_Task_18 : xk_FL "SandKernel$Task" 18 5 2 := ⟨_, rfl, by decide, Or.inl (xk_in (List.mem_of_getElem? (i := 169) (by decide +kernel)) rfl)⟩
theorem fl_Task_23 : xk_FL "SandKernel$Task" 23 5 3 := ⟨_, rfl, by decide, Or.inl (xk_in (List.mem_of_getElem? (i := 171) (by decide +kernel)) rfl)⟩
theorem fl_Task_30 : xk_FL "SandKernel$Task" 30 3 0 := ⟨_, rfl, by decide, Or.inr ⟨"SandKernel", List.mem_of_getElem? (i := 6) (by decide +kernel)⟩⟩
theorem fl_M_7 : xk_FL "SandKernelModel" 7 7 0 := ⟨_, rfl, by decide, Or.inl (xk_in (List.mem_of_getElem? (i := 573) (by decide +kernel)) rfl)⟩
theorem fl_M_13 : xk_FL "SandKernelModel" 13 7 1 := ⟨_, rfl, by decide, Or.inl (xk_in (List.mem_of_getElem? (i := 574) (by decide +kernel)) rfl)⟩
theorem fl_M_17 : xk_FL "SandKernelModel" 17 7 2 := ⟨_, rfl, by decide, Or.inl (xk_in (List.mem_of_getElem? (i := 575) (by decide +kernel)) rfl)⟩
theorem fl_M_20 : xk_FL "SandKernelModel" 20 7 3 := ⟨_, rfl, by decide, Or.inl (xk_in (List.mem_of_getElem? (i := 576) (by decide +kernel)) rfl)⟩
theorem fl_M_23 : xk_FL "SandKernelModel" 23 7 4 := ⟨_, rfl, by decide, Or.inl (xk_in (List.mem_of_getElem? (i := 577) (by decide +kernel)) rfl)⟩
theorem fl_M_26 : xk_FL "SandKernelModel" 26 7 5 := ⟨_, rfl, by decide, Or.inl (xk_in (List.mem_of_getElem? (i := 578) (by decide +kernel)) rfl)⟩
theorem fl_M_29 : xk_FL "SandKernelModel" 29 7 6 := ⟨_, rfl, by decide, Or.inl (xk_in (List.mem_of_getElem? (i := 579) (by decide +kernel)) rfl)⟩
theorem fl_M_32 : xk_FL "SandKernelModel" 32 7 7 := ⟨_, rfl, by decide, Or.inl (xk_in (List.mem_of_getElem? (i := 580) (by decide +kernel)) rfl)⟩
theorem fl_M_35 : xk_FL "SandKernelModel" 35 7 9 := ⟨_, rfl, by decide, Or.inl (xk_in (List.mem_of_getElem? (i := 582) (by decide +kernel)) rfl)⟩
theorem fl_M_38 : xk_FL "SandKernelModel" 38 7 10 := ⟨_, rfl, by decide, Or.inl (xk_in (List.mem_of_getElem? (i := 583) (by decide +kernel)) rfl)⟩
theorem fl_M_41 : xk_FL "SandKernelModel" 41 7 11 := ⟨_, rfl, by decide, Or.inl (xk_in (List.mem_of_getElem? (i := 584) (by decide +kernel)) rfl)⟩
theorem fl_M_44 : xk_FL "SandKernelModel" 44 7 12 := ⟨_, rfl, by decide, Or.inl (xk_in (List.mem_of_getElem? (i := 585) (by decide +kernel)) rfl)⟩
theorem fl_M_47 : xk_FL "SandKernelModel" 47 7 13 := ⟨_, rfl, by decide, Or.inl (xk_in (List.mem_of_getElem? (i := 586) (by decide +kernel)) rfl)⟩
theorem fl_M_50 : xk_FL "SandKernelModel" 50 7 14 := ⟨_, rfl, by decide, Or.inl (xk_in (List.mem_of_getElem? (i := 587) (by decide +kernel)) rfl)⟩
theorem fl_M_53 : xk_FL "SandKernelModel" 53 7 15 := ⟨_, rfl, by decide, Or.inl (xk_in (List.mem_of_getElem? (i := 588) (by decide +kernel)) rfl)⟩
theorem fl_M_56 : xk_FL "SandKernelModel" 56 7 16 := ⟨_, rfl, by decide, Or.inl (xk_in (List.mem_of_getElem? (i := 589) (by decide +kernel)) rfl)⟩
theorem fl_M_59 : xk_FL "SandKernelModel" 59 7 17 := ⟨_, rfl, by decide, Or.inl (xk_in (List.mem_of_getElem? (i := 590) (by decide +kernel)) rfl)⟩
theorem fl_M_62 : xk_FL "SandKernelModel" 62 7 18 := ⟨_, rfl, by decide, Or.inl (xk_in (List.mem_of_getElem? (i := 591) (by decide +kernel)) rfl)⟩
theorem fl_M_65 : xk_FL "SandKernelModel" 65 7 19 := ⟨_, rfl, by decide, Or.inl (xk_in (List.mem_of_getElem? (i := 592) (by decide +kernel)) rfl)⟩
theorem fl_M_68 : xk_FL "SandKernelModel" 68 7 22 := ⟨_, rfl, by decide, Or.inl (xk_in (List.mem_of_getElem? (i := 595) (by decide +kernel)) rfl)⟩
theorem fl_M_74 : xk_FL "SandKernelModel" 74 7 8 := ⟨_, rfl, by decide, Or.inl (xk_in (List.mem_of_getElem? (i := 581) (by decide +kernel)) rfl)⟩
theorem fl_M_89 : xk_FL "SandKernelModel" 89 7 20 := ⟨_, rfl, by decide, Or.inl (xk_in (List.mem_of_getElem? (i := 593) (by decide +kernel)) rfl)⟩
theorem fl_M_92 : xk_FL "SandKernelModel" 92 7 21 := ⟨_, rfl, by decide, Or.inl (xk_in (List.mem_of_getElem? (i := 594) (by decide +kernel)) rfl)⟩
theorem ml_K_9 : xk_ML "SandKernel" 9 m_Host_init := Or.inr ⟨"SandKernel", List.mem_of_getElem? (i := 17) (by decide +kernel)⟩
theorem ml_K_18 : xk_ML "SandKernel" 18 m_Cache_init := Or.inl (xk_in (List.mem_of_getElem? (i := 83) (by decide +kernel)) rfl)
theorem ml_K_29 : xk_ML "SandKernel" 29 m_Arr_fill2 := Or.inl (xk_in (List.mem_of_getElem? (i := 126) (by decide +kernel)) rfl)
theorem ml_K_41 : xk_ML "SandKernel" 41 m_Opening_init := Or.inr ⟨"SandKernel", List.mem_of_getElem? (i := 19) (by decide +kernel)⟩
theorem ml_K_48 : xk_ML "SandKernel" 48 m_Task_init := Or.inr ⟨"SandKernel", List.mem_of_getElem? (i := 20) (by decide +kernel)⟩
theorem ml_K_49 : xk_ML "SandKernel" 49 m_Task_begin := Or.inl (xk_in (List.mem_of_getElem? (i := 182) (by decide +kernel)) rfl)
theorem ml_K_53 : xk_ML "SandKernel" 53 m_K_isBelow := Or.inl (xk_in (List.mem_of_getElem? (i := 206) (by decide +kernel)) rfl)
theorem ml_K_57 : xk_ML "SandKernel" 57 m_K_isOpen := Or.inl (xk_in (List.mem_of_getElem? (i := 209) (by decide +kernel)) rfl)
theorem ml_K_61 : xk_ML "SandKernel" 61 m_Cache_holdsFile := Or.inl (xk_in (List.mem_of_getElem? (i := 217) (by decide +kernel)) rfl)
theorem ml_K_64 : xk_ML "SandKernel" 64 m_Host_place := Or.inl (xk_in (List.mem_of_getElem? (i := 221) (by decide +kernel)) rfl)
theorem ml_K_68 : xk_ML "SandKernel" 68 m_Cache_setLength := Or.inl (xk_in (List.mem_of_getElem? (i := 235) (by decide +kernel)) rfl)
theorem ml_K_72 : xk_ML "SandKernel" 72 m_Host_setToFail := Or.inl (xk_in (List.mem_of_getElem? (i := 247) (by decide +kernel)) rfl)
theorem ml_K_75 : xk_ML "SandKernel" 75 m_K_isAlive := Or.inl (xk_in (List.mem_of_getElem? (i := 255) (by decide +kernel)) rfl)
theorem ml_K_78 : xk_ML "SandKernel" 78 m_Host_isThere := Or.inl (xk_in (List.mem_of_getElem? (i := 259) (by decide +kernel)) rfl)
theorem ml_K_81 : xk_ML "SandKernel" 81 m_Task_freeFrom := Or.inl (xk_in (List.mem_of_getElem? (i := 263) (by decide +kernel)) rfl)
theorem ml_K_85 : xk_ML "SandKernel" 85 m_K_unusedFrom := Or.inl (xk_in (List.mem_of_getElem? (i := 267) (by decide +kernel)) rfl)
theorem ml_K_88 : xk_ML "SandKernel" 88 m_K_readyFile := Or.inl (xk_in (List.mem_of_getElem? (i := 271) (by decide +kernel)) rfl)
theorem ml_K_91 : xk_ML "SandKernel" 91 m_Opening_becomeFile := Or.inl (xk_in (List.mem_of_getElem? (i := 291) (by decide +kernel)) rfl)
theorem ml_K_94 : xk_ML "SandKernel" 94 m_Task_hold := Or.inl (xk_in (List.mem_of_getElem? (i := 295) (by decide +kernel)) rfl)
theorem ml_K_100 : xk_ML "SandKernel" 100 m_Pipe_init := Or.inr ⟨"SandKernel", List.mem_of_getElem? (i := 21) (by decide +kernel)⟩
theorem ml_K_101 : xk_ML "SandKernel" 101 m_Opening_becomePipeEnd := Or.inl (xk_in (List.mem_of_getElem? (i := 327) (by decide +kernel)) rfl)
theorem ml_K_105 : xk_ML "SandKernel" 105 m_K_openingOf := Or.inl (xk_in (List.mem_of_getElem? (i := 335) (by decide +kernel)) rfl)
theorem ml_K_109 : xk_ML "SandKernel" 109 m_K_whyNoOpening := Or.inl (xk_in (List.mem_of_getElem? (i := 339) (by decide +kernel)) rfl)
theorem ml_K_113 : xk_ML "SandKernel" 113 m_Opening_may := Or.inl (xk_in (List.mem_of_getElem? (i := 343) (by decide +kernel)) rfl)
theorem ml_K_120 : xk_ML "SandKernel" 120 m_K_readFile := Or.inl (xk_in (List.mem_of_getElem? (i := 347) (by decide +kernel)) rfl)
theorem ml_K_124 : xk_ML "SandKernel" 124 m_Pipe_takeCell := Or.inl (xk_in (List.mem_of_getElem? (i := 397) (by decide +kernel)) rfl)
theorem ml_K_128 : xk_ML "SandKernel" 128 m_K_writeFile := Or.inl (xk_in (List.mem_of_getElem? (i := 405) (by decide +kernel)) rfl)
theorem ml_K_132 : xk_ML "SandKernel" 132 m_Pipe_addCell := Or.inl (xk_in (List.mem_of_getElem? (i := 410) (by decide +kernel)) rfl)
theorem ml_K_139 : xk_ML "SandKernel" 139 m_Cache_lengthOf := Or.inl (xk_in (List.mem_of_getElem? (i := 351) (by decide +kernel)) rfl)
theorem ml_K_145 : xk_ML "SandKernel" 145 m_Cache_writeFileOut := Or.inl (xk_in (List.mem_of_getElem? (i := 422) (by decide +kernel)) rfl)
theorem ml_K_148 : xk_ML "SandKernel" 148 m_Task_letGo := Or.inl (xk_in (List.mem_of_getElem? (i := 434) (by decide +kernel)) rfl)
theorem ml_K_151 : xk_ML "SandKernel" 151 m_Host_removeFile := Or.inl (xk_in (List.mem_of_getElem? (i := 451) (by decide +kernel)) rfl)
theorem ml_K_154 : xk_ML "SandKernel" 154 m_Cache_dropFile := Or.inl (xk_in (List.mem_of_getElem? (i := 287) (by decide +kernel)) rfl)
theorem ml_K_157 : xk_ML "SandKernel" 157 m_K_leastNotThere := Or.inl (xk_in (List.mem_of_getElem? (i := 459) (by decide +kernel)) rfl)
theorem ml_K_160 : xk_ML "SandKernel" 160 m_Task_shareAllOf := Or.inl (xk_in (List.mem_of_getElem? (i := 463) (by decide +kernel)) rfl)
theorem ml_K_164 : xk_ML "SandKernel" 164 m_Task_finish := Or.inl (xk_in (List.mem_of_getElem? (i := 472) (by decide +kernel)) rfl)
theorem ml_K_167 : xk_ML "SandKernel" 167 m_Task_isChildOf := Or.inl (xk_in (List.mem_of_getElem? (i := 481) (by decide +kernel)) rfl)
theorem ml_K_176 : xk_ML "SandKernel" 176 m_Task_vanish := Or.inl (xk_in (List.mem_of_getElem? (i := 489) (by decide +kernel)) rfl)
theorem ml_K_182 : xk_ML "SandKernel" 182 m_Cache_startAnew := Or.inl (xk_in (List.mem_of_getElem? (i := 497) (by decide +kernel)) rfl)
theorem ml_K_185 : xk_ML "SandKernel" 185 m_Host_lengthOf := Or.inl (xk_in (List.mem_of_getElem? (i := 509) (by decide +kernel)) rfl)
theorem ml_K_186 : xk_ML "SandKernel" 186 m_Host_cellAt := Or.inl (xk_in (List.mem_of_getElem? (i := 510) (by decide +kernel)) rfl)
theorem ml_K_189 : xk_ML "SandKernel" 189 m_Host_operations := Or.inl (xk_in (List.mem_of_getElem? (i := 518) (by decide +kernel)) rfl)
theorem ml_K_197 : xk_ML "SandKernel" 197 m_Host_entryAt := Or.inl (xk_in (List.mem_of_getElem? (i := 523) (by decide +kernel)) rfl)
theorem ml_K_200 : xk_ML "SandKernel" 200 m_Cache_size := Or.inl (xk_in (List.mem_of_getElem? (i := 531) (by decide +kernel)) rfl)
theorem ml_K_203 : xk_ML "SandKernel" 203 m_Cache_blockAt := Or.inl (xk_in (List.mem_of_getElem? (i := 535) (by decide +kernel)) rfl)
theorem ml_K_207 : xk_ML "SandKernel" 207 m_Block_describe := Or.inl (xk_in (List.mem_of_getElem? (i := 539) (by decide +kernel)) rfl)
theorem ml_K_212 : xk_ML "SandKernel" 212 m_K_openingsThere := Or.inl (xk_in (List.mem_of_getElem? (i := 547) (by decide +kernel)) rfl)
theorem ml_K_215 : xk_ML "SandKernel" 215 m_K_tasksThere := Or.inl (xk_in (List.mem_of_getElem? (i := 551) (by decide +kernel)) rfl)
theorem ml_K_218 : xk_ML "SandKernel" 218 m_Cache_dirtyBlocks := Or.inl (xk_in (List.mem_of_getElem? (i := 555) (by decide +kernel)) rfl)
theorem ml_K_221 : xk_ML "SandKernel" 221 m_Host_leftToFail := Or.inl (xk_in (List.mem_of_getElem? (i := 559) (by decide +kernel)) rfl)
theorem ml_K_227 : xk_ML "SandKernel" 227 m_Opening_isOfFile := Or.inl (xk_in (List.mem_of_getElem? (i := 213) (by decide +kernel)) rfl)
theorem ml_K_233 : xk_ML "SandKernel" 233 m_Host_makeFile := Or.inl (xk_in (List.mem_of_getElem? (i := 275) (by decide +kernel)) rfl)
theorem ml_K_236 : xk_ML "SandKernel" 236 m_Host_emptyFile := Or.inl (xk_in (List.mem_of_getElem? (i := 283) (by decide +kernel)) rfl)
theorem ml_K_239 : xk_ML "SandKernel" 239 m_Cache_getBlock := Or.inl (xk_in (List.mem_of_getElem? (i := 355) (by decide +kernel)) rfl)
theorem ml_Cache_29 : xk_ML "SandKernel$Cache" 29 m_Block_init := Or.inr ⟨"SandKernel", List.mem_of_getElem? (i := 18) (by decide +kernel)⟩
theorem ml_Cache_37 : xk_ML "SandKernel$Cache" 37 m_Cache_find := Or.inl (xk_in (List.mem_of_getElem? (i := 359) (by decide +kernel)) rfl)
theorem ml_Cache_41 : xk_ML "SandKernel$Cache" 41 m_Cache_makeRoom := Or.inl (xk_in (List.mem_of_getElem? (i := 367) (by decide +kernel)) rfl)
theorem ml_Cache_45 : xk_ML "SandKernel$Cache" 45 m_Cache_bringIn := Or.inl (xk_in (List.mem_of_getElem? (i := 385) (by decide +kernel)) rfl)
theorem ml_Cache_49 : xk_ML "SandKernel$Cache" 49 m_Cache_writeOut := Or.inl (xk_in (List.mem_of_getElem? (i := 371) (by decide +kernel)) rfl)
theorem ml_Cache_53 : xk_ML "SandKernel$Cache" 53 m_Host_lengthOf := Or.inl (xk_in (List.mem_of_getElem? (i := 501) (by decide +kernel)) rfl)
theorem ml_Cache_59 : xk_ML "SandKernel$Cache" 59 m_Block_isOf := Or.inl (xk_in (List.mem_of_getElem? (i := 363) (by decide +kernel)) rfl)
theorem ml_Cache_65 : xk_ML "SandKernel$Cache" 65 m_Arr_fill2 := Or.inl (xk_in (List.mem_of_getElem? (i := 389) (by decide +kernel)) rfl)
theorem ml_Cache_71 : xk_ML "SandKernel$Cache" 71 m_Host_readBlock := Or.inl (xk_in (List.mem_of_getElem? (i := 390) (by decide +kernel)) rfl)
theorem ml_Cache_78 : xk_ML "SandKernel$Cache" 78 m_Host_writeBlock := Or.inl (xk_in (List.mem_of_getElem? (i := 375) (by decide +kernel)) rfl)
theorem ml_Host_32 : xk_ML "SandKernel$Host" 32 m_Host_clear := Or.inl (xk_in (List.mem_of_getElem? (i := 225) (by decide +kernel)) rfl)
theorem ml_Host_36 : xk_ML "SandKernel$Host" 36 m_Host_succeeds := Or.inl (xk_in (List.mem_of_getElem? (i := 279) (by decide +kernel)) rfl)
theorem ml_Host_55 : xk_ML "SandKernel$Host" 55 m_Arr_fill4 := Or.inl (xk_in (List.mem_of_getElem? (i := 229) (by decide +kernel)) rfl)
theorem ml_Opening_28 : xk_ML "SandKernel$Opening" 28 m_Opening_leavePipe := Or.inl (xk_in (List.mem_of_getElem? (i := 442) (by decide +kernel)) rfl)
theorem ml_Opening_32 : xk_ML "SandKernel$Opening" 32 m_Opening_may := Or.inl (xk_in (List.mem_of_getElem? (i := 446) (by decide +kernel)) rfl)
theorem ml_Task_27 : xk_ML "SandKernel$Task" 27 m_Task_letGoAll := Or.inl (xk_in (List.mem_of_getElem? (i := 476) (by decide +kernel)) rfl)
theorem ml_Task_33 : xk_ML "SandKernel$Task" 33 m_Opening_loseHolder := Or.inl (xk_in (List.mem_of_getElem? (i := 438) (by decide +kernel)) rfl)
theorem ml_Task_36 : xk_ML "SandKernel$Task" 36 m_Task_hold := Or.inl (xk_in (List.mem_of_getElem? (i := 467) (by decide +kernel)) rfl)
theorem ml_Task_40 : xk_ML "SandKernel$Task" 40 m_Task_letGo := Or.inl (xk_in (List.mem_of_getElem? (i := 480) (by decide +kernel)) rfl)
theorem ml_L_9 : xk_ML "SandKernelLaw" 9 m_K_init := Or.inl (xk_in (List.mem_of_getElem? (i := 48) (by decide +kernel)) rfl)
theorem ml_L_12 : xk_ML "SandKernelLaw" 12 m_M_init := Or.inl (xk_in (List.mem_of_getElem? (i := 565) (by decide +kernel)) rfl)
theorem ml_L_13 : xk_ML "SandKernelLaw" 13 m_K_put := Or.inl (xk_in (List.mem_of_getElem? (i := 202) (by decide +kernel)) rfl)
theorem ml_L_17 : xk_ML "SandKernelLaw" 17 m_M_put := Or.inl (xk_in (List.mem_of_getElem? (i := 643) (by decide +kernel)) rfl)
theorem ml_L_18 : xk_ML "SandKernelLaw" 18 m_K_policy := Or.inl (xk_in (List.mem_of_getElem? (i := 239) (by decide +kernel)) rfl)
theorem ml_L_22 : xk_ML "SandKernelLaw" 22 m_M_policy := Or.inl (xk_in (List.mem_of_getElem? (i := 662) (by decide +kernel)) rfl)
theorem ml_L_23 : xk_ML "SandKernelLaw" 23 m_K_failing := Or.inl (xk_in (List.mem_of_getElem? (i := 243) (by decide +kernel)) rfl)
theorem ml_L_27 : xk_ML "SandKernelLaw" 27 m_M_failing := Or.inl (xk_in (List.mem_of_getElem? (i := 666) (by decide +kernel)) rfl)
theorem ml_L_28 : xk_ML "SandKernelLaw" 28 m_K_open := Or.inl (xk_in (List.mem_of_getElem? (i := 251) (by decide +kernel)) rfl)
theorem ml_L_31 : xk_ML "SandKernelLaw" 31 m_M_open := Or.inl (xk_in (List.mem_of_getElem? (i := 670) (by decide +kernel)) rfl)
theorem ml_L_32 : xk_ML "SandKernelLaw" 32 m_K_pipe := Or.inl (xk_in (List.mem_of_getElem? (i := 299) (by decide +kernel)) rfl)
theorem ml_L_35 : xk_ML "SandKernelLaw" 35 m_M_pipe := Or.inl (xk_in (List.mem_of_getElem? (i := 698) (by decide +kernel)) rfl)
theorem ml_L_36 : xk_ML "SandKernelLaw" 36 m_K_read := Or.inl (xk_in (List.mem_of_getElem? (i := 331) (by decide +kernel)) rfl)
theorem ml_L_39 : xk_ML "SandKernelLaw" 39 m_M_read := Or.inl (xk_in (List.mem_of_getElem? (i := 706) (by decide +kernel)) rfl)
theorem ml_L_40 : xk_ML "SandKernelLaw" 40 m_K_write := Or.inl (xk_in (List.mem_of_getElem? (i := 401) (by decide +kernel)) rfl)
theorem ml_L_43 : xk_ML "SandKernelLaw" 43 m_M_write := Or.inl (xk_in (List.mem_of_getElem? (i := 726) (by decide +kernel)) rfl)
theorem ml_L_44 : xk_ML "SandKernelLaw" 44 m_K_seek := Or.inl (xk_in (List.mem_of_getElem? (i := 414) (by decide +kernel)) rfl)
theorem ml_L_47 : xk_ML "SandKernelLaw" 47 m_M_seek := Or.inl (xk_in (List.mem_of_getElem? (i := 730) (by decide +kernel)) rfl)
theorem ml_L_48 : xk_ML "SandKernelLaw" 48 m_K_sync := Or.inl (xk_in (List.mem_of_getElem? (i := 418) (by decide +kernel)) rfl)
theorem ml_L_51 : xk_ML "SandKernelLaw" 51 m_M_sync := Or.inl (xk_in (List.mem_of_getElem? (i := 734) (by decide +kernel)) rfl)
theorem ml_L_52 : xk_ML "SandKernelLaw" 52 m_K_dup := Or.inl (xk_in (List.mem_of_getElem? (i := 426) (by decide +kernel)) rfl)
theorem ml_L_55 : xk_ML "SandKernelLaw" 55 m_M_dup := Or.inl (xk_in (List.mem_of_getElem? (i := 738) (by decide +kernel)) rfl)
theorem ml_L_56 : xk_ML "SandKernelLaw" 56 m_K_close := Or.inl (xk_in (List.mem_of_getElem? (i := 430) (by decide +kernel)) rfl)
theorem ml_L_59 : xk_ML "SandKernelLaw" 59 m_M_close := Or.inl (xk_in (List.mem_of_getElem? (i := 742) (by decide +kernel)) rfl)
theorem ml_L_60 : xk_ML "SandKernelLaw" 60 m_K_unlink := Or.inl (xk_in (List.mem_of_getElem? (i := 447) (by decide +kernel)) rfl)
theorem ml_L_63 : xk_ML "SandKernelLaw" 63 m_M_unlink := Or.inl (xk_in (List.mem_of_getElem? (i := 746) (by decide +kernel)) rfl)
theorem ml_L_64 : xk_ML "SandKernelLaw" 64 m_K_fork := Or.inl (xk_in (List.mem_of_getElem? (i := 455) (by decide +kernel)) rfl)
theorem ml_L_67 : xk_ML "SandKernelLaw" 67 m_M_fork := Or.inl (xk_in (List.mem_of_getElem? (i := 750) (by decide +kernel)) rfl)
theorem ml_L_68 : xk_ML "SandKernelLaw" 68 m_K_exit := Or.inl (xk_in (List.mem_of_getElem? (i := 468) (by decide +kernel)) rfl)
theorem ml_L_71 : xk_ML "SandKernelLaw" 71 m_M_exit := Or.inl (xk_in (List.mem_of_getElem? (i := 754) (by decide +kernel)) rfl)
theorem ml_L_72 : xk_ML "SandKernelLaw" 72 m_K_wait := Or.inl (xk_in (List.mem_of_getElem? (i := 485) (by decide +kernel)) rfl)
theorem ml_L_75 : xk_ML "SandKernelLaw" 75 m_M_wait := Or.inl (xk_in (List.mem_of_getElem? (i := 758) (by decide +kernel)) rfl)
theorem ml_L_76 : xk_ML "SandKernelLaw" 76 m_K_crash := Or.inl (xk_in (List.mem_of_getElem? (i := 493) (by decide +kernel)) rfl)
theorem ml_L_80 : xk_ML "SandKernelLaw" 80 m_M_crash := Or.inl (xk_in (List.mem_of_getElem? (i := 762) (by decide +kernel)) rfl)
theorem ml_L_81 : xk_ML "SandKernelLaw" 81 m_K_host := Or.inl (xk_in (List.mem_of_getElem? (i := 505) (by decide +kernel)) rfl)
theorem ml_L_84 : xk_ML "SandKernelLaw" 84 m_M_host := Or.inl (xk_in (List.mem_of_getElem? (i := 766) (by decide +kernel)) rfl)
theorem ml_L_85 : xk_ML "SandKernelLaw" 85 m_K_log := Or.inl (xk_in (List.mem_of_getElem? (i := 514) (by decide +kernel)) rfl)
theorem ml_L_88 : xk_ML "SandKernelLaw" 88 m_M_log := Or.inl (xk_in (List.mem_of_getElem? (i := 770) (by decide +kernel)) rfl)
theorem ml_L_89 : xk_ML "SandKernelLaw" 89 m_K_cached := Or.inl (xk_in (List.mem_of_getElem? (i := 527) (by decide +kernel)) rfl)
theorem ml_L_92 : xk_ML "SandKernelLaw" 92 m_M_cached := Or.inl (xk_in (List.mem_of_getElem? (i := 774) (by decide +kernel)) rfl)
theorem ml_L_93 : xk_ML "SandKernelLaw" 93 m_K_count := Or.inl (xk_in (List.mem_of_getElem? (i := 543) (by decide +kernel)) rfl)
theorem ml_L_96 : xk_ML "SandKernelLaw" 96 m_M_count := Or.inl (xk_in (List.mem_of_getElem? (i := 778) (by decide +kernel)) rfl)
theorem ml_M_71 : xk_ML "SandKernelModel" 71 m_M_reborn := Or.inl (xk_in (List.mem_of_getElem? (i := 569) (by decide +kernel)) rfl)
theorem ml_M_78 : xk_ML "SandKernelModel" 78 m_M_in := Or.inl (xk_in (List.mem_of_getElem? (i := 647) (by decide +kernel)) rfl)
theorem ml_M_82 : xk_ML "SandKernelModel" 82 m_M_used := Or.inl (xk_in (List.mem_of_getElem? (i := 654) (by decide +kernel)) rfl)
theorem ml_M_86 : xk_ML "SandKernelModel" 86 m_M_alive := Or.inl (xk_in (List.mem_of_getElem? (i := 674) (by decide +kernel)) rfl)
theorem ml_M_95 : xk_ML "SandKernelModel" 95 m_M_operate := Or.inl (xk_in (List.mem_of_getElem? (i := 686) (by decide +kernel)) rfl)
theorem ml_M_98 : xk_ML "SandKernelModel" 98 m_M_toFront := Or.inl (xk_in (List.mem_of_getElem? (i := 718) (by decide +kernel)) rfl)
theorem ml_M_102 : xk_ML "SandKernelModel" 102 m_M_writeBack := Or.inl (xk_in (List.mem_of_getElem? (i := 722) (by decide +kernel)) rfl)
theorem ml_M_105 : xk_ML "SandKernelModel" 105 m_M_openFile := Or.inl (xk_in (List.mem_of_getElem? (i := 650) (by decide +kernel)) rfl)
theorem ml_M_108 : xk_ML "SandKernelModel" 108 m_M_wipeHost := Or.inl (xk_in (List.mem_of_getElem? (i := 658) (by decide +kernel)) rfl)
theorem ml_M_111 : xk_ML "SandKernelModel" 111 m_M_free := Or.inl (xk_in (List.mem_of_getElem? (i := 678) (by decide +kernel)) rfl)
theorem ml_M_115 : xk_ML "SandKernelModel" 115 m_M_openings := Or.inl (xk_in (List.mem_of_getElem? (i := 682) (by decide +kernel)) rfl)
theorem ml_M_119 : xk_ML "SandKernelModel" 119 m_M_forget := Or.inl (xk_in (List.mem_of_getElem? (i := 690) (by decide +kernel)) rfl)
theorem ml_M_122 : xk_ML "SandKernelModel" 122 m_M_newOpening := Or.inl (xk_in (List.mem_of_getElem? (i := 694) (by decide +kernel)) rfl)
theorem ml_M_126 : xk_ML "SandKernelModel" 126 m_M_hasEnd := Or.inl (xk_in (List.mem_of_getElem? (i := 702) (by decide +kernel)) rfl)
theorem ml_M_130 : xk_ML "SandKernelModel" 130 m_M_opening := Or.inl (xk_in (List.mem_of_getElem? (i := 710) (by decide +kernel)) rfl)
theorem ml_M_133 : xk_ML "SandKernelModel" 133 m_M_get := Or.inl (xk_in (List.mem_of_getElem? (i := 714) (by decide +kernel)) rfl)
theorem ml_Arr_13 : xk_ML "java/util/Arrays" 13 m_Arr_rangeCheck := Or.inl (xk_in (List.mem_of_getElem? (i := 232) (by decide +kernel)) rfl)
theorem mo_K_init : xk_mok m_K_init 0 := ⟨rfl, by decide, (xk_in (List.mem_of_getElem? (i := 50) (by decide +kernel)) rfl), (xk_in (List.mem_of_getElem? (i := 35) (by decide +kernel)) rfl), ⟨by decide, by decide⟩, by decide +kernel⟩
theorem cz_K_init : xk_CI m_K_init 0 := ⟨mo_K_init, rfl, rfl, (xk_in (List.mem_of_getElem? (i := 49) (by decide +kernel)) rfl), by decide⟩
theorem mo_Host_init : xk_mok m_Host_init 0 := ⟨rfl, by decide, (xk_in (List.mem_of_getElem? (i := 58) (by decide +kernel)) rfl), (xk_in (List.mem_of_getElem? (i := 36) (by decide +kernel)) rfl), ⟨by decide, by decide⟩, by decide +kernel⟩
theorem cz_Host_init : xk_CI m_Host_init 0 := ⟨mo_Host_init, rfl, rfl, (xk_in (List.mem_of_getElem? (i := 57) (by decide +kernel)) rfl), by decide⟩
theorem mo_Cache_init : xk_mok m_Cache_init 1 := ⟨rfl, by decide, (xk_in (List.mem_of_getElem? (i := 85) (by decide +kernel)) rfl), (xk_in (List.mem_of_getElem? (i := 37) (by decide +kernel)) rfl), ⟨by decide, by decide⟩, by decide +kernel⟩
theorem cz_Cache_init : xk_CI m_Cache_init 1 := ⟨mo_Cache_init, rfl, rfl, (xk_in (List.mem_of_getElem? (i := 84) (by decide +kernel)) rfl), by decide⟩
theorem mo_Block_init : xk_mok m_Block_init 0 := ⟨rfl, by decide, (xk_in (List.mem_of_getElem? (i := 92) (by decide +kernel)) rfl), (xk_in (List.mem_of_getElem? (i := 38) (by decide +kernel)) rfl), ⟨by decide, by decide⟩, by decide +kernel⟩
theorem cz_Block_init : xk_CI m_Block_init 0 := ⟨mo_Block_init, rfl, rfl, (xk_in (List.mem_of_getElem? (i := 91) (by decide +kernel)) rfl), by decide⟩
theorem mo_Arr_fill2 : xk_mok m_Arr_fill2 2 := ⟨rfl, by decide, (xk_in (List.mem_of_getElem? (i := 128) (by decide +kernel)) rfl), (xk_in (List.mem_of_getElem? (i := 39) (by decide +kernel)) rfl), ⟨by decide, by decide⟩, by decide +kernel⟩
theorem cz_Arr_fill2 : xk_CS m_Arr_fill2 2 := ⟨mo_Arr_fill2, (xk_in (List.mem_of_getElem? (i := 127) (by decide +kernel)) rfl), by decide⟩
theorem mo_Opening_init : xk_mok m_Opening_init 0 := ⟨rfl, by decide, (xk_in (List.mem_of_getElem? (i := 134) (by decide +kernel)) rfl), (xk_in (List.mem_of_getElem? (i := 40) (by decide +kernel)) rfl), ⟨by decide, by decide⟩, by decide +kernel⟩
theorem cz_Opening_init : xk_CI m_Opening_init 0 := ⟨mo_Opening_init, rfl, rfl, (xk_in (List.mem_of_getElem? (i := 133) (by decide +kernel)) rfl), by decide⟩
theorem mo_Task_init : xk_mok m_Task_init 0 := ⟨rfl, by decide, (xk_in (List.mem_of_getElem? (i := 162) (by decide +kernel)) rfl), (xk_in (List.mem_of_getElem? (i := 41) (by decide +kernel)) rfl), ⟨by decide, by decide⟩, by decide +kernel⟩
theorem cz_Task_init : xk_CI m_Task_init 0 := ⟨mo_Task_init, rfl, rfl, (xk_in (List.mem_of_getElem? (i := 161) (by decide +kernel)) rfl), by decide⟩
theorem mo_Task_begin : xk_mok m_Task_begin 1 := ⟨rfl, by decide, (xk_in (List.mem_of_getElem? (i := 185) (by decide +kernel)) rfl), (xk_in (List.mem_of_getElem? (i := 41) (by decide +kernel)) rfl), ⟨by decide, by decide⟩, by decide +kernel⟩
theorem cz_Task_begin : xk_CV m_Task_begin 5 1 := ⟨mo_Task_begin, (xk_in (List.mem_of_getElem? (i := 183) (by decide +kernel)) rfl), (xk_in (List.mem_of_getElem? (i := 184) (by decide +kernel)) rfl), ⟨_, rfl, rfl⟩, by decide⟩
theorem mo_K_put : xk_mok m_K_put 3 := ⟨rfl, by decide, (xk_in (List.mem_of_getElem? (i := 205) (by decide +kernel)) rfl), (xk_in (List.mem_of_getElem? (i := 35) (by decide +kernel)) rfl), ⟨by decide, by decide⟩, by decide +kernel⟩
theorem cz_K_put : xk_CV m_K_put 6 3 := ⟨mo_K_put, (xk_in (List.mem_of_getElem? (i := 203) (by decide +kernel)) rfl), (xk_in (List.mem_of_getElem? (i := 204) (by decide +kernel)) rfl), ⟨_, rfl, rfl⟩, by decide⟩
theorem mo_K_isBelow : xk_mok m_K_isBelow 2 := ⟨rfl, by decide, (xk_in (List.mem_of_getElem? (i := 208) (by decide +kernel)) rfl), (xk_in (List.mem_of_getElem? (i := 35) (by decide +kernel)) rfl), ⟨by decide, by decide⟩, by decide +kernel⟩
theorem cz_K_isBelow : xk_CS m_K_isBelow 2 := ⟨mo_K_isBelow, (xk_in (List.mem_of_getElem? (i := 207) (by decide +kernel)) rfl), by decide⟩
theorem mo_K_isOpen : xk_mok m_K_isOpen 1 := ⟨rfl, by decide, (xk_in (List.mem_of_getElem? (i := 212) (by decide +kernel)) rfl), (xk_in (List.mem_of_getElem? (i := 35) (by decide +kernel)) rfl), ⟨by decide, by decide⟩, by decide +kernel⟩
theorem cz_K_isOpen : xk_CV m_K_isOpen 6 1 := ⟨mo_K_isOpen, (xk_in (List.mem_of_getElem? (i := 211) (by decide +kernel)) rfl), (xk_in (List.mem_of_getElem? (i := 0) (by decide +kernel)) rfl), ⟨_, rfl, rfl⟩, by decide⟩
theorem mo_Opening_isOfFile : xk_mok m_Opening_isOfFile 1 := ⟨rfl, by decide, (xk_in (List.mem_of_getElem? (i := 216) (by decide +kernel)) rfl), (xk_in (List.mem_of_getElem? (i := 40) (by decide +kernel)) rfl), ⟨by decide, by decide⟩, by decide +kernel⟩
theorem cz_Opening_isOfFile : xk_CV m_Opening_isOfFile 3 1 := ⟨mo_Opening_isOfFile, (xk_in (List.mem_of_getElem? (i := 214) (by decide +kernel)) rfl), (xk_in (List.mem_of_getElem? (i := 215) (by decide +kernel)) rfl), ⟨_, rfl, rfl⟩, by decide⟩
theorem mo_Cache_holdsFile : xk_mok m_Cache_holdsFile 1 := ⟨rfl, by decide, (xk_in (List.mem_of_getElem? (i := 220) (by decide +kernel)) rfl), (xk_in (List.mem_of_getElem? (i := 37) (by decide +kernel)) rfl), ⟨by decide, by decide⟩, by decide +kernel⟩
theorem cz_Cache_holdsFile : xk_CV m_Cache_holdsFile 1 1 := ⟨mo_Cache_holdsFile, (xk_in (List.mem_of_getElem? (i := 218) (by decide +kernel)) rfl), (xk_in (List.mem_of_getElem? (i := 219) (by decide +kernel)) rfl), ⟨_, rfl, rfl⟩, by decide⟩
theorem mo_Host_place : xk_mok m_Host_place 3 := ⟨rfl, by decide, (xk_in (List.mem_of_getElem? (i := 224) (by decide +kernel)) rfl), (xk_in (List.mem_of_getElem? (i := 36) (by decide +kernel)) rfl), ⟨by decide, by decide⟩, by decide +kernel⟩
theorem cz_Host_place : xk_CV m_Host_place 2 3 := ⟨mo_Host_place, (xk_in (List.mem_of_getElem? (i := 222) (by decide +kernel)) rfl), (xk_in (List.mem_of_getElem? (i := 223) (by decide +kernel)) rfl), ⟨_, rfl, rfl⟩, by decide⟩
theorem mo_Host_clear : xk_mok m_Host_clear 1 := ⟨rfl, by decide, (xk_in (List.mem_of_getElem? (i := 228) (by decide +kernel)) rfl), (xk_in (List.mem_of_getElem? (i := 36) (by decide +kernel)) rfl), ⟨by decide, by decide⟩, by decide +kernel⟩
theorem cz_Host_clear : xk_CV m_Host_clear 2 1 := ⟨mo_Host_clear, (xk_in (List.mem_of_getElem? (i := 227) (by decide +kernel)) rfl), (xk_in (List.mem_of_getElem? (i := 1) (by decide +kernel)) rfl), ⟨_, rfl, rfl⟩, by decide⟩
theorem mo_Arr_fill4 : xk_mok m_Arr_fill4 4 := ⟨rfl, by decide, (xk_in (List.mem_of_getElem? (i := 231) (by decide +kernel)) rfl), (xk_in (List.mem_of_getElem? (i := 39) (by decide +kernel)) rfl), ⟨by decide, by decide⟩, by decide +kernel⟩
theorem cz_Arr_fill4 : xk_CS m_Arr_fill4 4 := ⟨mo_Arr_fill4, (xk_in (List.mem_of_getElem? (i := 230) (by decide +kernel)) rfl), by decide⟩
theorem mo_Arr_rangeCheck : xk_mok m_Arr_rangeCheck 3 := ⟨rfl, by decide, (xk_in (List.mem_of_getElem? (i := 234) (by decide +kernel)) rfl), (xk_in (List.mem_of_getElem? (i := 39) (by decide +kernel)) rfl), ⟨by decide, by decide⟩, by decide +kernel⟩
theorem cz_Arr_rangeCheck : xk_CS m_Arr_rangeCheck 3 := ⟨mo_Arr_rangeCheck, (xk_in (List.mem_of_getElem? (i := 233) (by decide +kernel)) rfl), by decide⟩
theorem mo_Cache_setLength : xk_mok m_Cache_setLength 2 := ⟨rfl, by decide, (xk_in (List.mem_of_getElem? (i := 238) (by decide +kernel)) rfl), (xk_in (List.mem_of_getElem? (i := 37) (by decide +kernel)) rfl), ⟨by decide, by decide⟩, by decide +kernel⟩
theorem cz_Cache_setLength : xk_CV m_Cache_setLength 1 2 := ⟨mo_Cache_setLength, (xk_in (List.mem_of_getElem? (i := 236) (by decide +kernel)) rfl), (xk_in (List.mem_of_getElem? (i := 237) (by decide +kernel)) rfl), ⟨_, rfl, rfl⟩, by decide⟩
theorem mo_K_policy : xk_mok m_K_policy 2 := ⟨rfl, by decide, (xk_in (List.mem_of_getElem? (i := 242) (by decide +kernel)) rfl), (xk_in (List.mem_of_getElem? (i := 35) (by decide +kernel)) rfl), ⟨by decide, by decide⟩, by decide +kernel⟩
theorem cz_K_policy : xk_CV m_K_policy 6 2 := ⟨mo_K_policy, (xk_in (List.mem_of_getElem? (i := 240) (by decide +kernel)) rfl), (xk_in (List.mem_of_getElem? (i := 241) (by decide +kernel)) rfl), ⟨_, rfl, rfl⟩, by decide⟩
theorem mo_K_failing : xk_mok m_K_failing 1 := ⟨rfl, by decide, (xk_in (List.mem_of_getElem? (i := 246) (by decide +kernel)) rfl), (xk_in (List.mem_of_getElem? (i := 35) (by decide +kernel)) rfl), ⟨by decide, by decide⟩, by decide +kernel⟩
theorem cz_K_failing : xk_CV m_K_failing 6 1 := ⟨mo_K_failing, (xk_in (List.mem_of_getElem? (i := 244) (by decide +kernel)) rfl), (xk_in (List.mem_of_getElem? (i := 245) (by decide +kernel)) rfl), ⟨_, rfl, rfl⟩, by decide⟩
theorem mo_Host_setToFail : xk_mok m_Host_setToFail 1 := ⟨rfl, by decide, (xk_in (List.mem_of_getElem? (i := 250) (by decide +kernel)) rfl), (xk_in (List.mem_of_getElem? (i := 36) (by decide +kernel)) rfl), ⟨by decide, by decide⟩, by decide +kernel⟩
theorem cz_Host_setToFail : xk_CV m_Host_setToFail 2 1 := ⟨mo_Host_setToFail, (xk_in (List.mem_of_getElem? (i := 248) (by decide +kernel)) rfl), (xk_in (List.mem_of_getElem? (i := 249) (by decide +kernel)) rfl), ⟨_, rfl, rfl⟩, by decide⟩
theorem mo_K_open : xk_mok m_K_open 3 := ⟨rfl, by decide, (xk_in (List.mem_of_getElem? (i := 254) (by decide +kernel)) rfl), (xk_in (List.mem_of_getElem? (i := 35) (by decide +kernel)) rfl), ⟨by decide, by decide⟩, by decide +kernel⟩
theorem cz_K_open : xk_CV m_K_open 6 3 := ⟨mo_K_open, (xk_in (List.mem_of_getElem? (i := 252) (by decide +kernel)) rfl), (xk_in (List.mem_of_getElem? (i := 253) (by decide +kernel)) rfl), ⟨_, rfl, rfl⟩, by decide⟩
theorem mo_K_isAlive : xk_mok m_K_isAlive 1 := ⟨rfl, by decide, (xk_in (List.mem_of_getElem? (i := 258) (by decide +kernel)) rfl), (xk_in (List.mem_of_getElem? (i := 35) (by decide +kernel)) rfl), ⟨by decide, by decide⟩, by decide +kernel⟩
theorem cz_K_isAlive : xk_CV m_K_isAlive 6 1 := ⟨mo_K_isAlive, (xk_in (List.mem_of_getElem? (i := 257) (by decide +kernel)) rfl), (xk_in (List.mem_of_getElem? (i := 2) (by decide +kernel)) rfl), ⟨_, rfl, rfl⟩, by decide⟩
theorem mo_Host_isThere : xk_mok m_Host_isThere 1 := ⟨rfl, by decide, (xk_in (List.mem_of_getElem? (i := 262) (by decide +kernel)) rfl), (xk_in (List.mem_of_getElem? (i := 36) (by decide +kernel)) rfl), ⟨by decide, by decide⟩, by decide +kernel⟩
theorem cz_Host_isThere : xk_CV m_Host_isThere 2 1 := ⟨mo_Host_isThere, (xk_in (List.mem_of_getElem? (i := 260) (by decide +kernel)) rfl), (xk_in (List.mem_of_getElem? (i := 261) (by decide +kernel)) rfl), ⟨_, rfl, rfl⟩, by decide⟩
theorem mo_Task_freeFrom : xk_mok m_Task_freeFrom 1 := ⟨rfl, by decide, (xk_in (List.mem_of_getElem? (i := 266) (by decide +kernel)) rfl), (xk_in (List.mem_of_getElem? (i := 41) (by decide +kernel)) rfl), ⟨by decide, by decide⟩, by decide +kernel⟩
theorem cz_Task_freeFrom : xk_CV m_Task_freeFrom 5 1 := ⟨mo_Task_freeFrom, (xk_in (List.mem_of_getElem? (i := 264) (by decide +kernel)) rfl), (xk_in (List.mem_of_getElem? (i := 265) (by decide +kernel)) rfl), ⟨_, rfl, rfl⟩, by decide⟩
theorem mo_K_unusedFrom : xk_mok m_K_unusedFrom 1 := ⟨rfl, by decide, (xk_in (List.mem_of_getElem? (i := 270) (by decide +kernel)) rfl), (xk_in (List.mem_of_getElem? (i := 35) (by decide +kernel)) rfl), ⟨by decide, by decide⟩, by decide +kernel⟩
theorem cz_K_unusedFrom : xk_CV m_K_unusedFrom 6 1 := ⟨mo_K_unusedFrom, (xk_in (List.mem_of_getElem? (i := 269) (by decide +kernel)) rfl), (xk_in (List.mem_of_getElem? (i := 3) (by decide +kernel)) rfl), ⟨_, rfl, rfl⟩, by decide⟩
theorem mo_K_readyFile : xk_mok m_K_readyFile 2 := ⟨rfl, by decide, (xk_in (List.mem_of_getElem? (i := 274) (by decide +kernel)) rfl), (xk_in (List.mem_of_getElem? (i := 35) (by decide +kernel)) rfl), ⟨by decide, by decide⟩, by decide +kernel⟩
theorem cz_K_readyFile : xk_CV m_K_readyFile 6 2 := ⟨mo_K_readyFile, (xk_in (List.mem_of_getElem? (i := 273) (by decide +kernel)) rfl), (xk_in (List.mem_of_getElem? (i := 4) (by decide +kernel)) rfl), ⟨_, rfl, rfl⟩, by decide⟩
theorem mo_Host_makeFile : xk_mok m_Host_makeFile 1 := ⟨rfl, by decide, (xk_in (List.mem_of_getElem? (i := 278) (by decide +kernel)) rfl), (xk_in (List.mem_of_getElem? (i := 36) (by decide +kernel)) rfl), ⟨by decide, by decide⟩, by decide +kernel⟩
theorem cz_Host_makeFile : xk_CV m_Host_makeFile 2 1 := ⟨mo_Host_makeFile, (xk_in (List.mem_of_getElem? (i := 276) (by decide +kernel)) rfl), (xk_in (List.mem_of_getElem? (i := 277) (by decide +kernel)) rfl), ⟨_, rfl, rfl⟩, by decide⟩
theorem mo_Host_succeeds : xk_mok m_Host_succeeds 3 := ⟨rfl, by decide, (xk_in (List.mem_of_getElem? (i := 282) (by decide +kernel)) rfl), (xk_in (List.mem_of_getElem? (i := 36) (by decide +kernel)) rfl), ⟨by decide, by decide⟩, by decide +kernel⟩
theorem cz_Host_succeeds : xk_CV m_Host_succeeds 2 3 := ⟨mo_Host_succeeds, (xk_in (List.mem_of_getElem? (i := 281) (by decide +kernel)) rfl), (xk_in (List.mem_of_getElem? (i := 5) (by decide +kernel)) rfl), ⟨_, rfl, rfl⟩, by decide⟩
theorem mo_Host_emptyFile : xk_mok m_Host_emptyFile 1 := ⟨rfl, by decide, (xk_in (List.mem_of_getElem? (i := 286) (by decide +kernel)) rfl), (xk_in (List.mem_of_getElem? (i := 36) (by decide +kernel)) rfl), ⟨by decide, by decide⟩, by decide +kernel⟩
theorem cz_Host_emptyFile : xk_CV m_Host_emptyFile 2 1 := ⟨mo_Host_emptyFile, (xk_in (List.mem_of_getElem? (i := 284) (by decide +kernel)) rfl), (xk_in (List.mem_of_getElem? (i := 285) (by decide +kernel)) rfl), ⟨_, rfl, rfl⟩, by decide⟩
theorem mo_Cache_dropFile : xk_mok m_Cache_dropFile 1 := ⟨rfl, by decide, (xk_in (List.mem_of_getElem? (i := 290) (by decide +kernel)) rfl), (xk_in (List.mem_of_getElem? (i := 37) (by decide +kernel)) rfl), ⟨by decide, by decide⟩, by decide +kernel⟩
theorem cz_Cache_dropFile : xk_CV m_Cache_dropFile 1 1 := ⟨mo_Cache_dropFile, (xk_in (List.mem_of_getElem? (i := 288) (by decide +kernel)) rfl), (xk_in (List.mem_of_getElem? (i := 289) (by decide +kernel)) rfl), ⟨_, rfl, rfl⟩, by decide⟩
theorem mo_Opening_becomeFile : xk_mok m_Opening_becomeFile 2 := ⟨rfl, by decide, (xk_in (List.mem_of_getElem? (i := 294) (by decide +kernel)) rfl), (xk_in (List.mem_of_getElem? (i := 40) (by decide +kernel)) rfl), ⟨by decide, by decide⟩, by decide +kernel⟩
theorem cz_Opening_becomeFile : xk_CV m_Opening_becomeFile 3 2 := ⟨mo_Opening_becomeFile, (xk_in (List.mem_of_getElem? (i := 292) (by decide +kernel)) rfl), (xk_in (List.mem_of_getElem? (i := 293) (by decide +kernel)) rfl), ⟨_, rfl, rfl⟩, by decide⟩
theorem mo_Task_hold : xk_mok m_Task_hold 2 := ⟨rfl, by decide, (xk_in (List.mem_of_getElem? (i := 298) (by decide +kernel)) rfl), (xk_in (List.mem_of_getElem? (i := 41) (by decide +kernel)) rfl), ⟨by decide, by decide⟩, by decide +kernel⟩
theorem cz_Task_hold : xk_CV m_Task_hold 5 2 := ⟨mo_Task_hold, (xk_in (List.mem_of_getElem? (i := 296) (by decide +kernel)) rfl), (xk_in (List.mem_of_getElem? (i := 297) (by decide +kernel)) rfl), ⟨_, rfl, rfl⟩, by decide⟩
theorem mo_K_pipe : xk_mok m_K_pipe 1 := ⟨rfl, by decide, (xk_in (List.mem_of_getElem? (i := 302) (by decide +kernel)) rfl), (xk_in (List.mem_of_getElem? (i := 35) (by decide +kernel)) rfl), ⟨by decide, by decide⟩, by decide +kernel⟩
theorem cz_K_pipe : xk_CV m_K_pipe 6 1 := ⟨mo_K_pipe, (xk_in (List.mem_of_getElem? (i := 300) (by decide +kernel)) rfl), (xk_in (List.mem_of_getElem? (i := 301) (by decide +kernel)) rfl), ⟨_, rfl, rfl⟩, by decide⟩
theorem mo_Pipe_init : xk_mok m_Pipe_init 0 := ⟨rfl, by decide, (xk_in (List.mem_of_getElem? (i := 307) (by decide +kernel)) rfl), (xk_in (List.mem_of_getElem? (i := 43) (by decide +kernel)) rfl), ⟨by decide, by decide⟩, by decide +kernel⟩
theorem cz_Pipe_init : xk_CI m_Pipe_init 0 := ⟨mo_Pipe_init, rfl, rfl, (xk_in (List.mem_of_getElem? (i := 306) (by decide +kernel)) rfl), by decide⟩
theorem mo_Opening_becomePipeEnd : xk_mok m_Opening_becomePipeEnd 2 := ⟨rfl, by decide, (xk_in (List.mem_of_getElem? (i := 330) (by decide +kernel)) rfl), (xk_in (List.mem_of_getElem? (i := 40) (by decide +kernel)) rfl), ⟨by decide, by decide⟩, by decide +kernel⟩
theorem cz_Opening_becomePipeEnd : xk_CV m_Opening_becomePipeEnd 3 2 := ⟨mo_Opening_becomePipeEnd, (xk_in (List.mem_of_getElem? (i := 328) (by decide +kernel)) rfl), (xk_in (List.mem_of_getElem? (i := 329) (by decide +kernel)) rfl), ⟨_, rfl, rfl⟩, by decide⟩
theorem mo_K_read : xk_mok m_K_read 2 := ⟨rfl, by decide, (xk_in (List.mem_of_getElem? (i := 334) (by decide +kernel)) rfl), (xk_in (List.mem_of_getElem? (i := 35) (by decide +kernel)) rfl), ⟨by decide, by decide⟩, by decide +kernel⟩
theorem cz_K_read : xk_CV m_K_read 6 2 := ⟨mo_K_read, (xk_in (List.mem_of_getElem? (i := 332) (by decide +kernel)) rfl), (xk_in (List.mem_of_getElem? (i := 333) (by decide +kernel)) rfl), ⟨_, rfl, rfl⟩, by decide⟩
theorem mo_K_openingOf : xk_mok m_K_openingOf 2 := ⟨rfl, by decide, (xk_in (List.mem_of_getElem? (i := 338) (by decide +kernel)) rfl), (xk_in (List.mem_of_getElem? (i := 35) (by decide +kernel)) rfl), ⟨by decide, by decide⟩, by decide +kernel⟩
theorem cz_K_openingOf : xk_CV m_K_openingOf 6 2 := ⟨mo_K_openingOf, (xk_in (List.mem_of_getElem? (i := 337) (by decide +kernel)) rfl), (xk_in (List.mem_of_getElem? (i := 6) (by decide +kernel)) rfl), ⟨_, rfl, rfl⟩, by decide⟩
theorem mo_K_whyNoOpening : xk_mok m_K_whyNoOpening 2 := ⟨rfl, by decide, (xk_in (List.mem_of_getElem? (i := 342) (by decide +kernel)) rfl), (xk_in (List.mem_of_getElem? (i := 35) (by decide +kernel)) rfl), ⟨by decide, by decide⟩, by decide +kernel⟩
theorem cz_K_whyNoOpening : xk_CV m_K_whyNoOpening 6 2 := ⟨mo_K_whyNoOpening, (xk_in (List.mem_of_getElem? (i := 341) (by decide +kernel)) rfl), (xk_in (List.mem_of_getElem? (i := 7) (by decide +kernel)) rfl), ⟨_, rfl, rfl⟩, by decide⟩
theorem mo_Opening_may : xk_mok m_Opening_may 1 := ⟨rfl, by decide, (xk_in (List.mem_of_getElem? (i := 346) (by decide +kernel)) rfl), (xk_in (List.mem_of_getElem? (i := 40) (by decide +kernel)) rfl), ⟨by decide, by decide⟩, by decide +kernel⟩
theorem cz_Opening_may : xk_CV m_Opening_may 3 1 := ⟨mo_Opening_may, (xk_in (List.mem_of_getElem? (i := 344) (by decide +kernel)) rfl), (xk_in (List.mem_of_getElem? (i := 345) (by decide +kernel)) rfl), ⟨_, rfl, rfl⟩, by decide⟩
theorem mo_K_readFile : xk_mok m_K_readFile 1 := ⟨rfl, by decide, (xk_in (List.mem_of_getElem? (i := 350) (by decide +kernel)) rfl), (xk_in (List.mem_of_getElem? (i := 35) (by decide +kernel)) rfl), ⟨by decide, by decide⟩, by decide +kernel⟩
theorem cz_K_readFile : xk_CV m_K_readFile 6 1 := ⟨mo_K_readFile, (xk_in (List.mem_of_getElem? (i := 349) (by decide +kernel)) rfl), (xk_in (List.mem_of_getElem? (i := 8) (by decide +kernel)) rfl), ⟨_, rfl, rfl⟩, by decide⟩
theorem mo_Cache_lengthOf : xk_mok m_Cache_lengthOf 1 := ⟨rfl, by decide, (xk_in (List.mem_of_getElem? (i := 354) (by decide +kernel)) rfl), (xk_in (List.mem_of_getElem? (i := 37) (by decide +kernel)) rfl), ⟨by decide, by decide⟩, by decide +kernel⟩
theorem cz_Cache_lengthOf : xk_CV m_Cache_lengthOf 1 1 := ⟨mo_Cache_lengthOf, (xk_in (List.mem_of_getElem? (i := 352) (by decide +kernel)) rfl), (xk_in (List.mem_of_getElem? (i := 353) (by decide +kernel)) rfl), ⟨_, rfl, rfl⟩, by decide⟩
theorem mo_Cache_getBlock : xk_mok m_Cache_getBlock 2 := ⟨rfl, by decide, (xk_in (List.mem_of_getElem? (i := 358) (by decide +kernel)) rfl), (xk_in (List.mem_of_getElem? (i := 37) (by decide +kernel)) rfl), ⟨by decide, by decide⟩, by decide +kernel⟩
theorem cz_Cache_getBlock : xk_CV m_Cache_getBlock 1 2 := ⟨mo_Cache_getBlock, (xk_in (List.mem_of_getElem? (i := 356) (by decide +kernel)) rfl), (xk_in (List.mem_of_getElem? (i := 357) (by decide +kernel)) rfl), ⟨_, rfl, rfl⟩, by decide⟩
theorem mo_Cache_find : xk_mok m_Cache_find 2 := ⟨rfl, by decide, (xk_in (List.mem_of_getElem? (i := 362) (by decide +kernel)) rfl), (xk_in (List.mem_of_getElem? (i := 37) (by decide +kernel)) rfl), ⟨by decide, by decide⟩, by decide +kernel⟩
theorem cz_Cache_find : xk_CV m_Cache_find 1 2 := ⟨mo_Cache_find, (xk_in (List.mem_of_getElem? (i := 361) (by decide +kernel)) rfl), (xk_in (List.mem_of_getElem? (i := 9) (by decide +kernel)) rfl), ⟨_, rfl, rfl⟩, by decide⟩
theorem mo_Block_isOf : xk_mok m_Block_isOf 2 := ⟨rfl, by decide, (xk_in (List.mem_of_getElem? (i := 366) (by decide +kernel)) rfl), (xk_in (List.mem_of_getElem? (i := 38) (by decide +kernel)) rfl), ⟨by decide, by decide⟩, by decide +kernel⟩
theorem cz_Block_isOf : xk_CV m_Block_isOf 0 2 := ⟨mo_Block_isOf, (xk_in (List.mem_of_getElem? (i := 364) (by decide +kernel)) rfl), (xk_in (List.mem_of_getElem? (i := 365) (by decide +kernel)) rfl), ⟨_, rfl, rfl⟩, by decide⟩
theorem mo_Cache_makeRoom : xk_mok m_Cache_makeRoom 0 := ⟨rfl, by decide, (xk_in (List.mem_of_getElem? (i := 370) (by decide +kernel)) rfl), (xk_in (List.mem_of_getElem? (i := 37) (by decide +kernel)) rfl), ⟨by decide, by decide⟩, by decide +kernel⟩
theorem cz_Cache_makeRoom : xk_CV m_Cache_makeRoom 1 0 := ⟨mo_Cache_makeRoom, (xk_in (List.mem_of_getElem? (i := 369) (by decide +kernel)) rfl), (xk_in (List.mem_of_getElem? (i := 10) (by decide +kernel)) rfl), ⟨_, rfl, rfl⟩, by decide⟩
theorem mo_Cache_writeOut : xk_mok m_Cache_writeOut 1 := ⟨rfl, by decide, (xk_in (List.mem_of_getElem? (i := 374) (by decide +kernel)) rfl), (xk_in (List.mem_of_getElem? (i := 37) (by decide +kernel)) rfl), ⟨by decide, by decide⟩, by decide +kernel⟩
theorem cz_Cache_writeOut : xk_CV m_Cache_writeOut 1 1 := ⟨mo_Cache_writeOut, (xk_in (List.mem_of_getElem? (i := 373) (by decide +kernel)) rfl), (xk_in (List.mem_of_getElem? (i := 11) (by decide +kernel)) rfl), ⟨_, rfl, rfl⟩, by decide⟩
theorem mo_Host_writeBlock : xk_mok m_Host_writeBlock 4 := ⟨rfl, by decide, (xk_in (List.mem_of_getElem? (i := 378) (by decide +kernel)) rfl), (xk_in (List.mem_of_getElem? (i := 36) (by decide +kernel)) rfl), ⟨by decide, by decide⟩, by decide +kernel⟩
theorem cz_Host_writeBlock : xk_CV m_Host_writeBlock 2 4 := ⟨mo_Host_writeBlock, (xk_in (List.mem_of_getElem? (i := 376) (by decide +kernel)) rfl), (xk_in (List.mem_of_getElem? (i := 377) (by decide +kernel)) rfl), ⟨_, rfl, rfl⟩, by decide⟩
theorem mo_Cache_bringIn : xk_mok m_Cache_bringIn 2 := ⟨rfl, by decide, (xk_in (List.mem_of_getElem? (i := 388) (by decide +kernel)) rfl), (xk_in (List.mem_of_getElem? (i := 37) (by decide +kernel)) rfl), ⟨by decide, by decide⟩, by decide +kernel⟩
theorem cz_Cache_bringIn : xk_CV m_Cache_bringIn 1 2 := ⟨mo_Cache_bringIn, (xk_in (List.mem_of_getElem? (i := 387) (by decide +kernel)) rfl), (xk_in (List.mem_of_getElem? (i := 12) (by decide +kernel)) rfl), ⟨_, rfl, rfl⟩, by decide⟩
theorem mo_Host_readBlock : xk_mok m_Host_readBlock 3 := ⟨rfl, by decide, (xk_in (List.mem_of_getElem? (i := 393) (by decide +kernel)) rfl), (xk_in (List.mem_of_getElem? (i := 36) (by decide +kernel)) rfl), ⟨by decide, by decide⟩, by decide +kernel⟩
theorem cz_Host_readBlock : xk_CV m_Host_readBlock 2 3 := ⟨mo_Host_readBlock, (xk_in (List.mem_of_getElem? (i := 391) (by decide +kernel)) rfl), (xk_in (List.mem_of_getElem? (i := 392) (by decide +kernel)) rfl), ⟨_, rfl, rfl⟩, by decide⟩
theorem mo_Pipe_takeCell : xk_mok m_Pipe_takeCell 0 := ⟨rfl, by decide, (xk_in (List.mem_of_getElem? (i := 400) (by decide +kernel)) rfl), (xk_in (List.mem_of_getElem? (i := 43) (by decide +kernel)) rfl), ⟨by decide, by decide⟩, by decide +kernel⟩
theorem cz_Pipe_takeCell : xk_CV m_Pipe_takeCell 4 0 := ⟨mo_Pipe_takeCell, (xk_in (List.mem_of_getElem? (i := 398) (by decide +kernel)) rfl), (xk_in (List.mem_of_getElem? (i := 399) (by decide +kernel)) rfl), ⟨_, rfl, rfl⟩, by decide⟩
theorem mo_K_write : xk_mok m_K_write 3 := ⟨rfl, by decide, (xk_in (List.mem_of_getElem? (i := 404) (by decide +kernel)) rfl), (xk_in (List.mem_of_getElem? (i := 35) (by decide +kernel)) rfl), ⟨by decide, by decide⟩, by decide +kernel⟩
theorem cz_K_write : xk_CV m_K_write 6 3 := ⟨mo_K_write, (xk_in (List.mem_of_getElem? (i := 402) (by decide +kernel)) rfl), (xk_in (List.mem_of_getElem? (i := 403) (by decide +kernel)) rfl), ⟨_, rfl, rfl⟩, by decide⟩
theorem mo_K_writeFile : xk_mok m_K_writeFile 2 := ⟨rfl, by decide, (xk_in (List.mem_of_getElem? (i := 408) (by decide +kernel)) rfl), (xk_in (List.mem_of_getElem? (i := 35) (by decide +kernel)) rfl), ⟨by decide, by decide⟩, by decide +kernel⟩
theorem cz_K_writeFile : xk_CV m_K_writeFile 6 2 := ⟨mo_K_writeFile, (xk_in (List.mem_of_getElem? (i := 407) (by decide +kernel)) rfl), (xk_in (List.mem_of_getElem? (i := 13) (by decide +kernel)) rfl), ⟨_, rfl, rfl⟩, by decide⟩
theorem mo_Pipe_addCell : xk_mok m_Pipe_addCell 1 := ⟨rfl, by decide, (xk_in (List.mem_of_getElem? (i := 413) (by decide +kernel)) rfl), (xk_in (List.mem_of_getElem? (i := 43) (by decide +kernel)) rfl), ⟨by decide, by decide⟩, by decide +kernel⟩
theorem cz_Pipe_addCell : xk_CV m_Pipe_addCell 4 1 := ⟨mo_Pipe_addCell, (xk_in (List.mem_of_getElem? (i := 411) (by decide +kernel)) rfl), (xk_in (List.mem_of_getElem? (i := 412) (by decide +kernel)) rfl), ⟨_, rfl, rfl⟩, by decide⟩
theorem mo_K_seek : xk_mok m_K_seek 3 := ⟨rfl, by decide, (xk_in (List.mem_of_getElem? (i := 417) (by decide +kernel)) rfl), (xk_in (List.mem_of_getElem? (i := 35) (by decide +kernel)) rfl), ⟨by decide, by decide⟩, by decide +kernel⟩
theorem cz_K_seek : xk_CV m_K_seek 6 3 := ⟨mo_K_seek, (xk_in (List.mem_of_getElem? (i := 415) (by decide +kernel)) rfl), (xk_in (List.mem_of_getElem? (i := 416) (by decide +kernel)) rfl), ⟨_, rfl, rfl⟩, by decide⟩
theorem mo_K_sync : xk_mok m_K_sync 2 := ⟨rfl, by decide, (xk_in (List.mem_of_getElem? (i := 421) (by decide +kernel)) rfl), (xk_in (List.mem_of_getElem? (i := 35) (by decide +kernel)) rfl), ⟨by decide, by decide⟩, by decide +kernel⟩
theorem cz_K_sync : xk_CV m_K_sync 6 2 := ⟨mo_K_sync, (xk_in (List.mem_of_getElem? (i := 419) (by decide +kernel)) rfl), (xk_in (List.mem_of_getElem? (i := 420) (by decide +kernel)) rfl), ⟨_, rfl, rfl⟩, by decide⟩
theorem mo_Cache_writeFileOut : xk_mok m_Cache_writeFileOut 1 := ⟨rfl, by decide, (xk_in (List.mem_of_getElem? (i := 425) (by decide +kernel)) rfl), (xk_in (List.mem_of_getElem? (i := 37) (by decide +kernel)) rfl), ⟨by decide, by decide⟩, by decide +kernel⟩
theorem cz_Cache_writeFileOut : xk_CV m_Cache_writeFileOut 1 1 := ⟨mo_Cache_writeFileOut, (xk_in (List.mem_of_getElem? (i := 423) (by decide +kernel)) rfl), (xk_in (List.mem_of_getElem? (i := 424) (by decide +kernel)) rfl), ⟨_, rfl, rfl⟩, by decide⟩
theorem mo_K_dup : xk_mok m_K_dup 2 := ⟨rfl, by decide, (xk_in (List.mem_of_getElem? (i := 429) (by decide +kernel)) rfl), (xk_in (List.mem_of_getElem? (i := 35) (by decide +kernel)) rfl), ⟨by decide, by decide⟩, by decide +kernel⟩
theorem cz_K_dup : xk_CV m_K_dup 6 2 := ⟨mo_K_dup, (xk_in (List.mem_of_getElem? (i := 427) (by decide +kernel)) rfl), (xk_in (List.mem_of_getElem? (i := 428) (by decide +kernel)) rfl), ⟨_, rfl, rfl⟩, by decide⟩
theorem mo_K_close : xk_mok m_K_close 2 := ⟨rfl, by decide, (xk_in (List.mem_of_getElem? (i := 433) (by decide +kernel)) rfl), (xk_in (List.mem_of_getElem? (i := 35) (by decide +kernel)) rfl), ⟨by decide, by decide⟩, by decide +kernel⟩
theorem cz_K_close : xk_CV m_K_close 6 2 := ⟨mo_K_close, (xk_in (List.mem_of_getElem? (i := 431) (by decide +kernel)) rfl), (xk_in (List.mem_of_getElem? (i := 432) (by decide +kernel)) rfl), ⟨_, rfl, rfl⟩, by decide⟩
theorem mo_Task_letGo : xk_mok m_Task_letGo 1 := ⟨rfl, by decide, (xk_in (List.mem_of_getElem? (i := 437) (by decide +kernel)) rfl), (xk_in (List.mem_of_getElem? (i := 41) (by decide +kernel)) rfl), ⟨by decide, by decide⟩, by decide +kernel⟩
theorem cz_Task_letGo : xk_CV m_Task_letGo 5 1 := ⟨mo_Task_letGo, (xk_in (List.mem_of_getElem? (i := 435) (by decide +kernel)) rfl), (xk_in (List.mem_of_getElem? (i := 436) (by decide +kernel)) rfl), ⟨_, rfl, rfl⟩, by decide⟩
theorem mo_Opening_loseHolder : xk_mok m_Opening_loseHolder 0 := ⟨rfl, by decide, (xk_in (List.mem_of_getElem? (i := 441) (by decide +kernel)) rfl), (xk_in (List.mem_of_getElem? (i := 40) (by decide +kernel)) rfl), ⟨by decide, by decide⟩, by decide +kernel⟩
theorem cz_Opening_loseHolder : xk_CV m_Opening_loseHolder 3 0 := ⟨mo_Opening_loseHolder, (xk_in (List.mem_of_getElem? (i := 439) (by decide +kernel)) rfl), (xk_in (List.mem_of_getElem? (i := 440) (by decide +kernel)) rfl), ⟨_, rfl, rfl⟩, by decide⟩
theorem mo_Opening_leavePipe : xk_mok m_Opening_leavePipe 1 := ⟨rfl, by decide, (xk_in (List.mem_of_getElem? (i := 445) (by decide +kernel)) rfl), (xk_in (List.mem_of_getElem? (i := 40) (by decide +kernel)) rfl), ⟨by decide, by decide⟩, by decide +kernel⟩
theorem cz_Opening_leavePipe : xk_CV m_Opening_leavePipe 3 1 := ⟨mo_Opening_leavePipe, (xk_in (List.mem_of_getElem? (i := 444) (by decide +kernel)) rfl), (xk_in (List.mem_of_getElem? (i := 14) (by decide +kernel)) rfl), ⟨_, rfl, rfl⟩, by decide⟩
theorem mo_K_unlink : xk_mok m_K_unlink 2 := ⟨rfl, by decide, (xk_in (List.mem_of_getElem? (i := 450) (by decide +kernel)) rfl), (xk_in (List.mem_of_getElem? (i := 35) (by decide +kernel)) rfl), ⟨by decide, by decide⟩, by decide +kernel⟩
theorem cz_K_unlink : xk_CV m_K_unlink 6 2 := ⟨mo_K_unlink, (xk_in (List.mem_of_getElem? (i := 448) (by decide +kernel)) rfl), (xk_in (List.mem_of_getElem? (i := 449) (by decide +kernel)) rfl), ⟨_, rfl, rfl⟩, by decide⟩
theorem mo_Host_removeFile : xk_mok m_Host_removeFile 1 := ⟨rfl, by decide, (xk_in (List.mem_of_getElem? (i := 454) (by decide +kernel)) rfl), (xk_in (List.mem_of_getElem? (i := 36) (by decide +kernel)) rfl), ⟨by decide, by decide⟩, by decide +kernel⟩
theorem cz_Host_removeFile : xk_CV m_Host_removeFile 2 1 := ⟨mo_Host_removeFile, (xk_in (List.mem_of_getElem? (i := 452) (by decide +kernel)) rfl), (xk_in (List.mem_of_getElem? (i := 453) (by decide +kernel)) rfl), ⟨_, rfl, rfl⟩, by decide⟩
theorem mo_K_fork : xk_mok m_K_fork 1 := ⟨rfl, by decide, (xk_in (List.mem_of_getElem? (i := 458) (by decide +kernel)) rfl), (xk_in (List.mem_of_getElem? (i := 35) (by decide +kernel)) rfl), ⟨by decide, by decide⟩, by decide +kernel⟩
theorem cz_K_fork : xk_CV m_K_fork 6 1 := ⟨mo_K_fork, (xk_in (List.mem_of_getElem? (i := 456) (by decide +kernel)) rfl), (xk_in (List.mem_of_getElem? (i := 457) (by decide +kernel)) rfl), ⟨_, rfl, rfl⟩, by decide⟩
theorem mo_K_leastNotThere : xk_mok m_K_leastNotThere 0 := ⟨rfl, by decide, (xk_in (List.mem_of_getElem? (i := 462) (by decide +kernel)) rfl), (xk_in (List.mem_of_getElem? (i := 35) (by decide +kernel)) rfl), ⟨by decide, by decide⟩, by decide +kernel⟩
theorem cz_K_leastNotThere : xk_CV m_K_leastNotThere 6 0 := ⟨mo_K_leastNotThere, (xk_in (List.mem_of_getElem? (i := 461) (by decide +kernel)) rfl), (xk_in (List.mem_of_getElem? (i := 15) (by decide +kernel)) rfl), ⟨_, rfl, rfl⟩, by decide⟩
theorem mo_Task_shareAllOf : xk_mok m_Task_shareAllOf 1 := ⟨rfl, by decide, (xk_in (List.mem_of_getElem? (i := 466) (by decide +kernel)) rfl), (xk_in (List.mem_of_getElem? (i := 41) (by decide +kernel)) rfl), ⟨by decide, by decide⟩, by decide +kernel⟩
theorem cz_Task_shareAllOf : xk_CV m_Task_shareAllOf 5 1 := ⟨mo_Task_shareAllOf, (xk_in (List.mem_of_getElem? (i := 464) (by decide +kernel)) rfl), (xk_in (List.mem_of_getElem? (i := 465) (by decide +kernel)) rfl), ⟨_, rfl, rfl⟩, by decide⟩
theorem mo_K_exit : xk_mok m_K_exit 2 := ⟨rfl, by decide, (xk_in (List.mem_of_getElem? (i := 471) (by decide +kernel)) rfl), (xk_in (List.mem_of_getElem? (i := 35) (by decide +kernel)) rfl), ⟨by decide, by decide⟩, by decide +kernel⟩
theorem cz_K_exit : xk_CV m_K_exit 6 2 := ⟨mo_K_exit, (xk_in (List.mem_of_getElem? (i := 469) (by decide +kernel)) rfl), (xk_in (List.mem_of_getElem? (i := 470) (by decide +kernel)) rfl), ⟨_, rfl, rfl⟩, by decide⟩
theorem mo_Task_finish : xk_mok m_Task_finish 1 := ⟨rfl, by decide, (xk_in (List.mem_of_getElem? (i := 475) (by decide +kernel)) rfl), (xk_in (List.mem_of_getElem? (i := 41) (by decide +kernel)) rfl), ⟨by decide, by decide⟩, by decide +kernel⟩
theorem cz_Task_finish : xk_CV m_Task_finish 5 1 := ⟨mo_Task_finish, (xk_in (List.mem_of_getElem? (i := 473) (by decide +kernel)) rfl), (xk_in (List.mem_of_getElem? (i := 474) (by decide +kernel)) rfl), ⟨_, rfl, rfl⟩, by decide⟩
theorem mo_Task_letGoAll : xk_mok m_Task_letGoAll 0 := ⟨rfl, by decide, (xk_in (List.mem_of_getElem? (i := 479) (by decide +kernel)) rfl), (xk_in (List.mem_of_getElem? (i := 41) (by decide +kernel)) rfl), ⟨by decide, by decide⟩, by decide +kernel⟩
theorem cz_Task_letGoAll : xk_CV m_Task_letGoAll 5 0 := ⟨mo_Task_letGoAll, (xk_in (List.mem_of_getElem? (i := 478) (by decide +kernel)) rfl), (xk_in (List.mem_of_getElem? (i := 16) (by decide +kernel)) rfl), ⟨_, rfl, rfl⟩, by decide⟩
theorem mo_Task_isChildOf : xk_mok m_Task_isChildOf 1 := ⟨rfl, by decide, (xk_in (List.mem_of_getElem? (i := 484) (by decide +kernel)) rfl), (xk_in (List.mem_of_getElem? (i := 41) (by decide +kernel)) rfl), ⟨by decide, by decide⟩, by decide +kernel⟩
theorem cz_Task_isChildOf : xk_CV m_Task_isChildOf 5 1 := ⟨mo_Task_isChildOf, (xk_in (List.mem_of_getElem? (i := 482) (by decide +kernel)) rfl), (xk_in (List.mem_of_getElem? (i := 483) (by decide +kernel)) rfl), ⟨_, rfl, rfl⟩, by decide⟩
theorem mo_K_wait : xk_mok m_K_wait 1 := ⟨rfl, by decide, (xk_in (List.mem_of_getElem? (i := 488) (by decide +kernel)) rfl), (xk_in (List.mem_of_getElem? (i := 35) (by decide +kernel)) rfl), ⟨by decide, by decide⟩, by decide +kernel⟩
theorem cz_K_wait : xk_CV m_K_wait 6 1 := ⟨mo_K_wait, (xk_in (List.mem_of_getElem? (i := 486) (by decide +kernel)) rfl), (xk_in (List.mem_of_getElem? (i := 487) (by decide +kernel)) rfl), ⟨_, rfl, rfl⟩, by decide⟩
theorem mo_Task_vanish : xk_mok m_Task_vanish 0 := ⟨rfl, by decide, (xk_in (List.mem_of_getElem? (i := 492) (by decide +kernel)) rfl), (xk_in (List.mem_of_getElem? (i := 41) (by decide +kernel)) rfl), ⟨by decide, by decide⟩, by decide +kernel⟩
theorem cz_Task_vanish : xk_CV m_Task_vanish 5 0 := ⟨mo_Task_vanish, (xk_in (List.mem_of_getElem? (i := 490) (by decide +kernel)) rfl), (xk_in (List.mem_of_getElem? (i := 491) (by decide +kernel)) rfl), ⟨_, rfl, rfl⟩, by decide⟩
theorem mo_K_crash : xk_mok m_K_crash 0 := ⟨rfl, by decide, (xk_in (List.mem_of_getElem? (i := 496) (by decide +kernel)) rfl), (xk_in (List.mem_of_getElem? (i := 35) (by decide +kernel)) rfl), ⟨by decide, by decide⟩, by decide +kernel⟩
theorem cz_K_crash : xk_CV m_K_crash 6 0 := ⟨mo_K_crash, (xk_in (List.mem_of_getElem? (i := 494) (by decide +kernel)) rfl), (xk_in (List.mem_of_getElem? (i := 495) (by decide +kernel)) rfl), ⟨_, rfl, rfl⟩, by decide⟩
theorem mo_Cache_startAnew : xk_mok m_Cache_startAnew 0 := ⟨rfl, by decide, (xk_in (List.mem_of_getElem? (i := 500) (by decide +kernel)) rfl), (xk_in (List.mem_of_getElem? (i := 37) (by decide +kernel)) rfl), ⟨by decide, by decide⟩, by decide +kernel⟩
theorem cz_Cache_startAnew : xk_CV m_Cache_startAnew 1 0 := ⟨mo_Cache_startAnew, (xk_in (List.mem_of_getElem? (i := 498) (by decide +kernel)) rfl), (xk_in (List.mem_of_getElem? (i := 499) (by decide +kernel)) rfl), ⟨_, rfl, rfl⟩, by decide⟩
theorem mo_Host_lengthOf : xk_mok m_Host_lengthOf 1 := ⟨rfl, by decide, (xk_in (List.mem_of_getElem? (i := 504) (by decide +kernel)) rfl), (xk_in (List.mem_of_getElem? (i := 36) (by decide +kernel)) rfl), ⟨by decide, by decide⟩, by decide +kernel⟩
theorem cz_Host_lengthOf : xk_CV m_Host_lengthOf 2 1 := ⟨mo_Host_lengthOf, (xk_in (List.mem_of_getElem? (i := 502) (by decide +kernel)) rfl), (xk_in (List.mem_of_getElem? (i := 503) (by decide +kernel)) rfl), ⟨_, rfl, rfl⟩, by decide⟩
theorem mo_K_host : xk_mok m_K_host 2 := ⟨rfl, by decide, (xk_in (List.mem_of_getElem? (i := 508) (by decide +kernel)) rfl), (xk_in (List.mem_of_getElem? (i := 35) (by decide +kernel)) rfl), ⟨by decide, by decide⟩, by decide +kernel⟩
theorem cz_K_host : xk_CV m_K_host 6 2 := ⟨mo_K_host, (xk_in (List.mem_of_getElem? (i := 506) (by decide +kernel)) rfl), (xk_in (List.mem_of_getElem? (i := 507) (by decide +kernel)) rfl), ⟨_, rfl, rfl⟩, by decide⟩
theorem mo_Host_cellAt : xk_mok m_Host_cellAt 2 := ⟨rfl, by decide, (xk_in (List.mem_of_getElem? (i := 513) (by decide +kernel)) rfl), (xk_in (List.mem_of_getElem? (i := 36) (by decide +kernel)) rfl), ⟨by decide, by decide⟩, by decide +kernel⟩
theorem cz_Host_cellAt : xk_CV m_Host_cellAt 2 2 := ⟨mo_Host_cellAt, (xk_in (List.mem_of_getElem? (i := 511) (by decide +kernel)) rfl), (xk_in (List.mem_of_getElem? (i := 512) (by decide +kernel)) rfl), ⟨_, rfl, rfl⟩, by decide⟩
theorem mo_K_log : xk_mok m_K_log 1 := ⟨rfl, by decide, (xk_in (List.mem_of_getElem? (i := 517) (by decide +kernel)) rfl), (xk_in (List.mem_of_getElem? (i := 35) (by decide +kernel)) rfl), ⟨by decide, by decide⟩, by decide +kernel⟩
theorem cz_K_log : xk_CV m_K_log 6 1 := ⟨mo_K_log, (xk_in (List.mem_of_getElem? (i := 515) (by decide +kernel)) rfl), (xk_in (List.mem_of_getElem? (i := 516) (by decide +kernel)) rfl), ⟨_, rfl, rfl⟩, by decide⟩
theorem mo_Host_operations : xk_mok m_Host_operations 0 := ⟨rfl, by decide, (xk_in (List.mem_of_getElem? (i := 521) (by decide +kernel)) rfl), (xk_in (List.mem_of_getElem? (i := 36) (by decide +kernel)) rfl), ⟨by decide, by decide⟩, by decide +kernel⟩
theorem cz_Host_operations : xk_CV m_Host_operations 2 0 := ⟨mo_Host_operations, (xk_in (List.mem_of_getElem? (i := 519) (by decide +kernel)) rfl), (xk_in (List.mem_of_getElem? (i := 520) (by decide +kernel)) rfl), ⟨_, rfl, rfl⟩, by decide⟩
theorem mo_Host_entryAt : xk_mok m_Host_entryAt 1 := ⟨rfl, by decide, (xk_in (List.mem_of_getElem? (i := 526) (by decide +kernel)) rfl), (xk_in (List.mem_of_getElem? (i := 36) (by decide +kernel)) rfl), ⟨by decide, by decide⟩, by decide +kernel⟩
theorem cz_Host_entryAt : xk_CV m_Host_entryAt 2 1 := ⟨mo_Host_entryAt, (xk_in (List.mem_of_getElem? (i := 524) (by decide +kernel)) rfl), (xk_in (List.mem_of_getElem? (i := 525) (by decide +kernel)) rfl), ⟨_, rfl, rfl⟩, by decide⟩
theorem mo_K_cached : xk_mok m_K_cached 1 := ⟨rfl, by decide, (xk_in (List.mem_of_getElem? (i := 530) (by decide +kernel)) rfl), (xk_in (List.mem_of_getElem? (i := 35) (by decide +kernel)) rfl), ⟨by decide, by decide⟩, by decide +kernel⟩
theorem cz_K_cached : xk_CV m_K_cached 6 1 := ⟨mo_K_cached, (xk_in (List.mem_of_getElem? (i := 528) (by decide +kernel)) rfl), (xk_in (List.mem_of_getElem? (i := 529) (by decide +kernel)) rfl), ⟨_, rfl, rfl⟩, by decide⟩
theorem mo_Cache_size : xk_mok m_Cache_size 0 := ⟨rfl, by decide, (xk_in (List.mem_of_getElem? (i := 534) (by decide +kernel)) rfl), (xk_in (List.mem_of_getElem? (i := 37) (by decide +kernel)) rfl), ⟨by decide, by decide⟩, by decide +kernel⟩
theorem cz_Cache_size : xk_CV m_Cache_size 1 0 := ⟨mo_Cache_size, (xk_in (List.mem_of_getElem? (i := 532) (by decide +kernel)) rfl), (xk_in (List.mem_of_getElem? (i := 533) (by decide +kernel)) rfl), ⟨_, rfl, rfl⟩, by decide⟩
theorem mo_Cache_blockAt : xk_mok m_Cache_blockAt 1 := ⟨rfl, by decide, (xk_in (List.mem_of_getElem? (i := 538) (by decide +kernel)) rfl), (xk_in (List.mem_of_getElem? (i := 37) (by decide +kernel)) rfl), ⟨by decide, by decide⟩, by decide +kernel⟩
theorem cz_Cache_blockAt : xk_CV m_Cache_blockAt 1 1 := ⟨mo_Cache_blockAt, (xk_in (List.mem_of_getElem? (i := 536) (by decide +kernel)) rfl), (xk_in (List.mem_of_getElem? (i := 537) (by decide +kernel)) rfl), ⟨_, rfl, rfl⟩, by decide⟩
theorem mo_Block_describe : xk_mok m_Block_describe 0 := ⟨rfl, by decide, (xk_in (List.mem_of_getElem? (i := 542) (by decide +kernel)) rfl), (xk_in (List.mem_of_getElem? (i := 38) (by decide +kernel)) rfl), ⟨by decide, by decide⟩, by decide +kernel⟩
theorem cz_Block_describe : xk_CV m_Block_describe 0 0 := ⟨mo_Block_describe, (xk_in (List.mem_of_getElem? (i := 540) (by decide +kernel)) rfl), (xk_in (List.mem_of_getElem? (i := 541) (by decide +kernel)) rfl), ⟨_, rfl, rfl⟩, by decide⟩
theorem mo_K_count : xk_mok m_K_count 1 := ⟨rfl, by decide, (xk_in (List.mem_of_getElem? (i := 546) (by decide +kernel)) rfl), (xk_in (List.mem_of_getElem? (i := 35) (by decide +kernel)) rfl), ⟨by decide, by decide⟩, by decide +kernel⟩
theorem cz_K_count : xk_CV m_K_count 6 1 := ⟨mo_K_count, (xk_in (List.mem_of_getElem? (i := 544) (by decide +kernel)) rfl), (xk_in (List.mem_of_getElem? (i := 545) (by decide +kernel)) rfl), ⟨_, rfl, rfl⟩, by decide⟩
theorem mo_K_openingsThere : xk_mok m_K_openingsThere 0 := ⟨rfl, by decide, (xk_in (List.mem_of_getElem? (i := 550) (by decide +kernel)) rfl), (xk_in (List.mem_of_getElem? (i := 35) (by decide +kernel)) rfl), ⟨by decide, by decide⟩, by decide +kernel⟩
theorem cz_K_openingsThere : xk_CV m_K_openingsThere 6 0 := ⟨mo_K_openingsThere, (xk_in (List.mem_of_getElem? (i := 549) (by decide +kernel)) rfl), (xk_in (List.mem_of_getElem? (i := 17) (by decide +kernel)) rfl), ⟨_, rfl, rfl⟩, by decide⟩
theorem mo_K_tasksThere : xk_mok m_K_tasksThere 0 := ⟨rfl, by decide, (xk_in (List.mem_of_getElem? (i := 554) (by decide +kernel)) rfl), (xk_in (List.mem_of_getElem? (i := 35) (by decide +kernel)) rfl), ⟨by decide, by decide⟩, by decide +kernel⟩
theorem cz_K_tasksThere : xk_CV m_K_tasksThere 6 0 := ⟨mo_K_tasksThere, (xk_in (List.mem_of_getElem? (i := 553) (by decide +kernel)) rfl), (xk_in (List.mem_of_getElem? (i := 18) (by decide +kernel)) rfl), ⟨_, rfl, rfl⟩, by decide⟩
theorem mo_Cache_dirtyBlocks : xk_mok m_Cache_dirtyBlocks 0 := ⟨rfl, by decide, (xk_in (List.mem_of_getElem? (i := 558) (by decide +kernel)) rfl), (xk_in (List.mem_of_getElem? (i := 37) (by decide +kernel)) rfl), ⟨by decide, by decide⟩, by decide +kernel⟩
theorem cz_Cache_dirtyBlocks : xk_CV m_Cache_dirtyBlocks 1 0 := ⟨mo_Cache_dirtyBlocks, (xk_in (List.mem_of_getElem? (i := 556) (by decide +kernel)) rfl), (xk_in (List.mem_of_getElem? (i := 557) (by decide +kernel)) rfl), ⟨_, rfl, rfl⟩, by decide⟩
theorem mo_Host_leftToFail : xk_mok m_Host_leftToFail 0 := ⟨rfl, by decide, (xk_in (List.mem_of_getElem? (i := 562) (by decide +kernel)) rfl), (xk_in (List.mem_of_getElem? (i := 36) (by decide +kernel)) rfl), ⟨by decide, by decide⟩, by decide +kernel⟩
theorem cz_Host_leftToFail : xk_CV m_Host_leftToFail 2 0 := ⟨mo_Host_leftToFail, (xk_in (List.mem_of_getElem? (i := 560) (by decide +kernel)) rfl), (xk_in (List.mem_of_getElem? (i := 561) (by decide +kernel)) rfl), ⟨_, rfl, rfl⟩, by decide⟩
theorem mo_M_init : xk_mok m_M_init 0 := ⟨rfl, by decide, (xk_in (List.mem_of_getElem? (i := 567) (by decide +kernel)) rfl), (xk_in (List.mem_of_getElem? (i := 42) (by decide +kernel)) rfl), ⟨by decide, by decide⟩, by decide +kernel⟩
theorem cz_M_init : xk_CI m_M_init 0 := ⟨mo_M_init, rfl, rfl, (xk_in (List.mem_of_getElem? (i := 566) (by decide +kernel)) rfl), by decide⟩
theorem mo_M_reborn : xk_mok m_M_reborn 0 := ⟨rfl, by decide, (xk_in (List.mem_of_getElem? (i := 572) (by decide +kernel)) rfl), (xk_in (List.mem_of_getElem? (i := 42) (by decide +kernel)) rfl), ⟨by decide, by decide⟩, by decide +kernel⟩
theorem cz_M_reborn : xk_CV m_M_reborn 7 0 := ⟨mo_M_reborn, (xk_in (List.mem_of_getElem? (i := 571) (by decide +kernel)) rfl), (xk_in (List.mem_of_getElem? (i := 19) (by decide +kernel)) rfl), ⟨_, rfl, rfl⟩, by decide⟩
theorem mo_M_put : xk_mok m_M_put 3 := ⟨rfl, by decide, (xk_in (List.mem_of_getElem? (i := 646) (by decide +kernel)) rfl), (xk_in (List.mem_of_getElem? (i := 42) (by decide +kernel)) rfl), ⟨by decide, by decide⟩, by decide +kernel⟩
theorem cz_M_put : xk_CV m_M_put 7 3 := ⟨mo_M_put, (xk_in (List.mem_of_getElem? (i := 644) (by decide +kernel)) rfl), (xk_in (List.mem_of_getElem? (i := 645) (by decide +kernel)) rfl), ⟨_, rfl, rfl⟩, by decide⟩
theorem mo_M_in : xk_mok m_M_in 3 := ⟨rfl, by decide, (xk_in (List.mem_of_getElem? (i := 649) (by decide +kernel)) rfl), (xk_in (List.mem_of_getElem? (i := 42) (by decide +kernel)) rfl), ⟨by decide, by decide⟩, by decide +kernel⟩
theorem cz_M_in : xk_CS m_M_in 3 := ⟨mo_M_in, (xk_in (List.mem_of_getElem? (i := 648) (by decide +kernel)) rfl), by decide⟩
theorem mo_M_openFile : xk_mok m_M_openFile 1 := ⟨rfl, by decide, (xk_in (List.mem_of_getElem? (i := 653) (by decide +kernel)) rfl), (xk_in (List.mem_of_getElem? (i := 42) (by decide +kernel)) rfl), ⟨by decide, by decide⟩, by decide +kernel⟩
theorem cz_M_openFile : xk_CV m_M_openFile 7 1 := ⟨mo_M_openFile, (xk_in (List.mem_of_getElem? (i := 652) (by decide +kernel)) rfl), (xk_in (List.mem_of_getElem? (i := 20) (by decide +kernel)) rfl), ⟨_, rfl, rfl⟩, by decide⟩
theorem mo_M_used : xk_mok m_M_used 1 := ⟨rfl, by decide, (xk_in (List.mem_of_getElem? (i := 657) (by decide +kernel)) rfl), (xk_in (List.mem_of_getElem? (i := 42) (by decide +kernel)) rfl), ⟨by decide, by decide⟩, by decide +kernel⟩
theorem cz_M_used : xk_CV m_M_used 7 1 := ⟨mo_M_used, (xk_in (List.mem_of_getElem? (i := 656) (by decide +kernel)) rfl), (xk_in (List.mem_of_getElem? (i := 21) (by decide +kernel)) rfl), ⟨_, rfl, rfl⟩, by decide⟩
theorem mo_M_wipeHost : xk_mok m_M_wipeHost 1 := ⟨rfl, by decide, (xk_in (List.mem_of_getElem? (i := 661) (by decide +kernel)) rfl), (xk_in (List.mem_of_getElem? (i := 42) (by decide +kernel)) rfl), ⟨by decide, by decide⟩, by decide +kernel⟩
theorem cz_M_wipeHost : xk_CV m_M_wipeHost 7 1 := ⟨mo_M_wipeHost, (xk_in (List.mem_of_getElem? (i := 660) (by decide +kernel)) rfl), (xk_in (List.mem_of_getElem? (i := 22) (by decide +kernel)) rfl), ⟨_, rfl, rfl⟩, by decide⟩
theorem mo_M_policy : xk_mok m_M_policy 2 := ⟨rfl, by decide, (xk_in (List.mem_of_getElem? (i := 665) (by decide +kernel)) rfl), (xk_in (List.mem_of_getElem? (i := 42) (by decide +kernel)) rfl), ⟨by decide, by decide⟩, by decide +kernel⟩
theorem cz_M_policy : xk_CV m_M_policy 7 2 := ⟨mo_M_policy, (xk_in (List.mem_of_getElem? (i := 663) (by decide +kernel)) rfl), (xk_in (List.mem_of_getElem? (i := 664) (by decide +kernel)) rfl), ⟨_, rfl, rfl⟩, by decide⟩
theorem mo_M_failing : xk_mok m_M_failing 1 := ⟨rfl, by decide, (xk_in (List.mem_of_getElem? (i := 669) (by decide +kernel)) rfl), (xk_in (List.mem_of_getElem? (i := 42) (by decide +kernel)) rfl), ⟨by decide, by decide⟩, by decide +kernel⟩
theorem cz_M_failing : xk_CV m_M_failing 7 1 := ⟨mo_M_failing, (xk_in (List.mem_of_getElem? (i := 667) (by decide +kernel)) rfl), (xk_in (List.mem_of_getElem? (i := 668) (by decide +kernel)) rfl), ⟨_, rfl, rfl⟩, by decide⟩
theorem mo_M_open : xk_mok m_M_open 3 := ⟨rfl, by decide, (xk_in (List.mem_of_getElem? (i := 673) (by decide +kernel)) rfl), (xk_in (List.mem_of_getElem? (i := 42) (by decide +kernel)) rfl), ⟨by decide, by decide⟩, by decide +kernel⟩
theorem cz_M_open : xk_CV m_M_open 7 3 := ⟨mo_M_open, (xk_in (List.mem_of_getElem? (i := 671) (by decide +kernel)) rfl), (xk_in (List.mem_of_getElem? (i := 672) (by decide +kernel)) rfl), ⟨_, rfl, rfl⟩, by decide⟩
theorem mo_M_alive : xk_mok m_M_alive 1 := ⟨rfl, by decide, (xk_in (List.mem_of_getElem? (i := 677) (by decide +kernel)) rfl), (xk_in (List.mem_of_getElem? (i := 42) (by decide +kernel)) rfl), ⟨by decide, by decide⟩, by decide +kernel⟩
theorem cz_M_alive : xk_CV m_M_alive 7 1 := ⟨mo_M_alive, (xk_in (List.mem_of_getElem? (i := 676) (by decide +kernel)) rfl), (xk_in (List.mem_of_getElem? (i := 23) (by decide +kernel)) rfl), ⟨_, rfl, rfl⟩, by decide⟩
theorem mo_M_free : xk_mok m_M_free 2 := ⟨rfl, by decide, (xk_in (List.mem_of_getElem? (i := 681) (by decide +kernel)) rfl), (xk_in (List.mem_of_getElem? (i := 42) (by decide +kernel)) rfl), ⟨by decide, by decide⟩, by decide +kernel⟩
theorem cz_M_free : xk_CV m_M_free 7 2 := ⟨mo_M_free, (xk_in (List.mem_of_getElem? (i := 680) (by decide +kernel)) rfl), (xk_in (List.mem_of_getElem? (i := 24) (by decide +kernel)) rfl), ⟨_, rfl, rfl⟩, by decide⟩
theorem mo_M_openings : xk_mok m_M_openings 0 := ⟨rfl, by decide, (xk_in (List.mem_of_getElem? (i := 685) (by decide +kernel)) rfl), (xk_in (List.mem_of_getElem? (i := 42) (by decide +kernel)) rfl), ⟨by decide, by decide⟩, by decide +kernel⟩
theorem cz_M_openings : xk_CV m_M_openings 7 0 := ⟨mo_M_openings, (xk_in (List.mem_of_getElem? (i := 684) (by decide +kernel)) rfl), (xk_in (List.mem_of_getElem? (i := 25) (by decide +kernel)) rfl), ⟨_, rfl, rfl⟩, by decide⟩
theorem mo_M_operate : xk_mok m_M_operate 3 := ⟨rfl, by decide, (xk_in (List.mem_of_getElem? (i := 689) (by decide +kernel)) rfl), (xk_in (List.mem_of_getElem? (i := 42) (by decide +kernel)) rfl), ⟨by decide, by decide⟩, by decide +kernel⟩
theorem cz_M_operate : xk_CV m_M_operate 7 3 := ⟨mo_M_operate, (xk_in (List.mem_of_getElem? (i := 688) (by decide +kernel)) rfl), (xk_in (List.mem_of_getElem? (i := 26) (by decide +kernel)) rfl), ⟨_, rfl, rfl⟩, by decide⟩
theorem mo_M_forget : xk_mok m_M_forget 1 := ⟨rfl, by decide, (xk_in (List.mem_of_getElem? (i := 693) (by decide +kernel)) rfl), (xk_in (List.mem_of_getElem? (i := 42) (by decide +kernel)) rfl), ⟨by decide, by decide⟩, by decide +kernel⟩
theorem cz_M_forget : xk_CV m_M_forget 7 1 := ⟨mo_M_forget, (xk_in (List.mem_of_getElem? (i := 692) (by decide +kernel)) rfl), (xk_in (List.mem_of_getElem? (i := 27) (by decide +kernel)) rfl), ⟨_, rfl, rfl⟩, by decide⟩
theorem mo_M_newOpening : xk_mok m_M_newOpening 3 := ⟨rfl, by decide, (xk_in (List.mem_of_getElem? (i := 697) (by decide +kernel)) rfl), (xk_in (List.mem_of_getElem? (i := 42) (by decide +kernel)) rfl), ⟨by decide, by decide⟩, by decide +kernel⟩
theorem cz_M_newOpening : xk_CV m_M_newOpening 7 3 := ⟨mo_M_newOpening, (xk_in (List.mem_of_getElem? (i := 696) (by decide +kernel)) rfl), (xk_in (List.mem_of_getElem? (i := 28) (by decide +kernel)) rfl), ⟨_, rfl, rfl⟩, by decide⟩
theorem mo_M_pipe : xk_mok m_M_pipe 1 := ⟨rfl, by decide, (xk_in (List.mem_of_getElem? (i := 701) (by decide +kernel)) rfl), (xk_in (List.mem_of_getElem? (i := 42) (by decide +kernel)) rfl), ⟨by decide, by decide⟩, by decide +kernel⟩
theorem cz_M_pipe : xk_CV m_M_pipe 7 1 := ⟨mo_M_pipe, (xk_in (List.mem_of_getElem? (i := 699) (by decide +kernel)) rfl), (xk_in (List.mem_of_getElem? (i := 700) (by decide +kernel)) rfl), ⟨_, rfl, rfl⟩, by decide⟩
theorem mo_M_hasEnd : xk_mok m_M_hasEnd 2 := ⟨rfl, by decide, (xk_in (List.mem_of_getElem? (i := 705) (by decide +kernel)) rfl), (xk_in (List.mem_of_getElem? (i := 42) (by decide +kernel)) rfl), ⟨by decide, by decide⟩, by decide +kernel⟩
theorem cz_M_hasEnd : xk_CV m_M_hasEnd 7 2 := ⟨mo_M_hasEnd, (xk_in (List.mem_of_getElem? (i := 704) (by decide +kernel)) rfl), (xk_in (List.mem_of_getElem? (i := 29) (by decide +kernel)) rfl), ⟨_, rfl, rfl⟩, by decide⟩
theorem mo_M_read : xk_mok m_M_read 2 := ⟨rfl, by decide, (xk_in (List.mem_of_getElem? (i := 709) (by decide +kernel)) rfl), (xk_in (List.mem_of_getElem? (i := 42) (by decide +kernel)) rfl), ⟨by decide, by decide⟩, by decide +kernel⟩
theorem cz_M_read : xk_CV m_M_read 7 2 := ⟨mo_M_read, (xk_in (List.mem_of_getElem? (i := 707) (by decide +kernel)) rfl), (xk_in (List.mem_of_getElem? (i := 708) (by decide +kernel)) rfl), ⟨_, rfl, rfl⟩, by decide⟩
theorem mo_M_opening : xk_mok m_M_opening 2 := ⟨rfl, by decide, (xk_in (List.mem_of_getElem? (i := 713) (by decide +kernel)) rfl), (xk_in (List.mem_of_getElem? (i := 42) (by decide +kernel)) rfl), ⟨by decide, by decide⟩, by decide +kernel⟩
theorem cz_M_opening : xk_CV m_M_opening 7 2 := ⟨mo_M_opening, (xk_in (List.mem_of_getElem? (i := 712) (by decide +kernel)) rfl), (xk_in (List.mem_of_getElem? (i := 30) (by decide +kernel)) rfl), ⟨_, rfl, rfl⟩, by decide⟩
theorem mo_M_get : xk_mok m_M_get 2 := ⟨rfl, by decide, (xk_in (List.mem_of_getElem? (i := 717) (by decide +kernel)) rfl), (xk_in (List.mem_of_getElem? (i := 42) (by decide +kernel)) rfl), ⟨by decide, by decide⟩, by decide +kernel⟩
theorem cz_M_get : xk_CV m_M_get 7 2 := ⟨mo_M_get, (xk_in (List.mem_of_getElem? (i := 716) (by decide +kernel)) rfl), (xk_in (List.mem_of_getElem? (i := 31) (by decide +kernel)) rfl), ⟨_, rfl, rfl⟩, by decide⟩
theorem mo_M_toFront : xk_mok m_M_toFront 1 := ⟨rfl, by decide, (xk_in (List.mem_of_getElem? (i := 721) (by decide +kernel)) rfl), (xk_in (List.mem_of_getElem? (i := 42) (by decide +kernel)) rfl), ⟨by decide, by decide⟩, by decide +kernel⟩
theorem cz_M_toFront : xk_CV m_M_toFront 7 1 := ⟨mo_M_toFront, (xk_in (List.mem_of_getElem? (i := 720) (by decide +kernel)) rfl), (xk_in (List.mem_of_getElem? (i := 32) (by decide +kernel)) rfl), ⟨_, rfl, rfl⟩, by decide⟩
theorem mo_M_writeBack : xk_mok m_M_writeBack 1 := ⟨rfl, by decide, (xk_in (List.mem_of_getElem? (i := 725) (by decide +kernel)) rfl), (xk_in (List.mem_of_getElem? (i := 42) (by decide +kernel)) rfl), ⟨by decide, by decide⟩, by decide +kernel⟩
theorem cz_M_writeBack : xk_CV m_M_writeBack 7 1 := ⟨mo_M_writeBack, (xk_in (List.mem_of_getElem? (i := 724) (by decide +kernel)) rfl), (xk_in (List.mem_of_getElem? (i := 33) (by decide +kernel)) rfl), ⟨_, rfl, rfl⟩, by decide⟩
theorem mo_M_write : xk_mok m_M_write 3 := ⟨rfl, by decide, (xk_in (List.mem_of_getElem? (i := 729) (by decide +kernel)) rfl), (xk_in (List.mem_of_getElem? (i := 42) (by decide +kernel)) rfl), ⟨by decide, by decide⟩, by decide +kernel⟩
theorem cz_M_write : xk_CV m_M_write 7 3 := ⟨mo_M_write, (xk_in (List.mem_of_getElem? (i := 727) (by decide +kernel)) rfl), (xk_in (List.mem_of_getElem? (i := 728) (by decide +kernel)) rfl), ⟨_, rfl, rfl⟩, by decide⟩
theorem mo_M_seek : xk_mok m_M_seek 3 := ⟨rfl, by decide, (xk_in (List.mem_of_getElem? (i := 733) (by decide +kernel)) rfl), (xk_in (List.mem_of_getElem? (i := 42) (by decide +kernel)) rfl), ⟨by decide, by decide⟩, by decide +kernel⟩
theorem cz_M_seek : xk_CV m_M_seek 7 3 := ⟨mo_M_seek, (xk_in (List.mem_of_getElem? (i := 731) (by decide +kernel)) rfl), (xk_in (List.mem_of_getElem? (i := 732) (by decide +kernel)) rfl), ⟨_, rfl, rfl⟩, by decide⟩
theorem mo_M_sync : xk_mok m_M_sync 2 := ⟨rfl, by decide, (xk_in (List.mem_of_getElem? (i := 737) (by decide +kernel)) rfl), (xk_in (List.mem_of_getElem? (i := 42) (by decide +kernel)) rfl), ⟨by decide, by decide⟩, by decide +kernel⟩
theorem cz_M_sync : xk_CV m_M_sync 7 2 := ⟨mo_M_sync, (xk_in (List.mem_of_getElem? (i := 735) (by decide +kernel)) rfl), (xk_in (List.mem_of_getElem? (i := 736) (by decide +kernel)) rfl), ⟨_, rfl, rfl⟩, by decide⟩
theorem mo_M_dup : xk_mok m_M_dup 2 := ⟨rfl, by decide, (xk_in (List.mem_of_getElem? (i := 741) (by decide +kernel)) rfl), (xk_in (List.mem_of_getElem? (i := 42) (by decide +kernel)) rfl), ⟨by decide, by decide⟩, by decide +kernel⟩
theorem cz_M_dup : xk_CV m_M_dup 7 2 := ⟨mo_M_dup, (xk_in (List.mem_of_getElem? (i := 739) (by decide +kernel)) rfl), (xk_in (List.mem_of_getElem? (i := 740) (by decide +kernel)) rfl), ⟨_, rfl, rfl⟩, by decide⟩
theorem mo_M_close : xk_mok m_M_close 2 := ⟨rfl, by decide, (xk_in (List.mem_of_getElem? (i := 745) (by decide +kernel)) rfl), (xk_in (List.mem_of_getElem? (i := 42) (by decide +kernel)) rfl), ⟨by decide, by decide⟩, by decide +kernel⟩
theorem cz_M_close : xk_CV m_M_close 7 2 := ⟨mo_M_close, (xk_in (List.mem_of_getElem? (i := 743) (by decide +kernel)) rfl), (xk_in (List.mem_of_getElem? (i := 744) (by decide +kernel)) rfl), ⟨_, rfl, rfl⟩, by decide⟩
theorem mo_M_unlink : xk_mok m_M_unlink 2 := ⟨rfl, by decide, (xk_in (List.mem_of_getElem? (i := 749) (by decide +kernel)) rfl), (xk_in (List.mem_of_getElem? (i := 42) (by decide +kernel)) rfl), ⟨by decide, by decide⟩, by decide +kernel⟩
theorem cz_M_unlink : xk_CV m_M_unlink 7 2 := ⟨mo_M_unlink, (xk_in (List.mem_of_getElem? (i := 747) (by decide +kernel)) rfl), (xk_in (List.mem_of_getElem? (i := 748) (by decide +kernel)) rfl), ⟨_, rfl, rfl⟩, by decide⟩
theorem mo_M_fork : xk_mok m_M_fork 1 := ⟨rfl, by decide, (xk_in (List.mem_of_getElem? (i := 753) (by decide +kernel)) rfl), (xk_in (List.mem_of_getElem? (i := 42) (by decide +kernel)) rfl), ⟨by decide, by decide⟩, by decide +kernel⟩
theorem cz_M_fork : xk_CV m_M_fork 7 1 := ⟨mo_M_fork, (xk_in (List.mem_of_getElem? (i := 751) (by decide +kernel)) rfl), (xk_in (List.mem_of_getElem? (i := 752) (by decide +kernel)) rfl), ⟨_, rfl, rfl⟩, by decide⟩
theorem mo_M_exit : xk_mok m_M_exit 2 := ⟨rfl, by decide, (xk_in (List.mem_of_getElem? (i := 757) (by decide +kernel)) rfl), (xk_in (List.mem_of_getElem? (i := 42) (by decide +kernel)) rfl), ⟨by decide, by decide⟩, by decide +kernel⟩
theorem cz_M_exit : xk_CV m_M_exit 7 2 := ⟨mo_M_exit, (xk_in (List.mem_of_getElem? (i := 755) (by decide +kernel)) rfl), (xk_in (List.mem_of_getElem? (i := 756) (by decide +kernel)) rfl), ⟨_, rfl, rfl⟩, by decide⟩
theorem mo_M_wait : xk_mok m_M_wait 1 := ⟨rfl, by decide, (xk_in (List.mem_of_getElem? (i := 761) (by decide +kernel)) rfl), (xk_in (List.mem_of_getElem? (i := 42) (by decide +kernel)) rfl), ⟨by decide, by decide⟩, by decide +kernel⟩
theorem cz_M_wait : xk_CV m_M_wait 7 1 := ⟨mo_M_wait, (xk_in (List.mem_of_getElem? (i := 759) (by decide +kernel)) rfl), (xk_in (List.mem_of_getElem? (i := 760) (by decide +kernel)) rfl), ⟨_, rfl, rfl⟩, by decide⟩
theorem mo_M_crash : xk_mok m_M_crash 0 := ⟨rfl, by decide, (xk_in (List.mem_of_getElem? (i := 765) (by decide +kernel)) rfl), (xk_in (List.mem_of_getElem? (i := 42) (by decide +kernel)) rfl), ⟨by decide, by decide⟩, by decide +kernel⟩
theorem cz_M_crash : xk_CV m_M_crash 7 0 := ⟨mo_M_crash, (xk_in (List.mem_of_getElem? (i := 763) (by decide +kernel)) rfl), (xk_in (List.mem_of_getElem? (i := 764) (by decide +kernel)) rfl), ⟨_, rfl, rfl⟩, by decide⟩
theorem mo_M_host : xk_mok m_M_host 2 := ⟨rfl, by decide, (xk_in (List.mem_of_getElem? (i := 769) (by decide +kernel)) rfl), (xk_in (List.mem_of_getElem? (i := 42) (by decide +kernel)) rfl), ⟨by decide, by decide⟩, by decide +kernel⟩
theorem cz_M_host : xk_CV m_M_host 7 2 := ⟨mo_M_host, (xk_in (List.mem_of_getElem? (i := 767) (by decide +kernel)) rfl), (xk_in (List.mem_of_getElem? (i := 768) (by decide +kernel)) rfl), ⟨_, rfl, rfl⟩, by decide⟩
theorem mo_M_log : xk_mok m_M_log 1 := ⟨rfl, by decide, (xk_in (List.mem_of_getElem? (i := 773) (by decide +kernel)) rfl), (xk_in (List.mem_of_getElem? (i := 42) (by decide +kernel)) rfl), ⟨by decide, by decide⟩, by decide +kernel⟩
theorem cz_M_log : xk_CV m_M_log 7 1 := ⟨mo_M_log, (xk_in (List.mem_of_getElem? (i := 771) (by decide +kernel)) rfl), (xk_in (List.mem_of_getElem? (i := 772) (by decide +kernel)) rfl), ⟨_, rfl, rfl⟩, by decide⟩
theorem mo_M_cached : xk_mok m_M_cached 1 := ⟨rfl, by decide, (xk_in (List.mem_of_getElem? (i := 777) (by decide +kernel)) rfl), (xk_in (List.mem_of_getElem? (i := 42) (by decide +kernel)) rfl), ⟨by decide, by decide⟩, by decide +kernel⟩
theorem cz_M_cached : xk_CV m_M_cached 7 1 := ⟨mo_M_cached, (xk_in (List.mem_of_getElem? (i := 775) (by decide +kernel)) rfl), (xk_in (List.mem_of_getElem? (i := 776) (by decide +kernel)) rfl), ⟨_, rfl, rfl⟩, by decide⟩
theorem mo_M_count : xk_mok m_M_count 1 := ⟨rfl, by decide, (xk_in (List.mem_of_getElem? (i := 781) (by decide +kernel)) rfl), (xk_in (List.mem_of_getElem? (i := 42) (by decide +kernel)) rfl), ⟨by decide, by decide⟩, by decide +kernel⟩
theorem cz_M_count : xk_CV m_M_count 7 1 := ⟨mo_M_count, (xk_in (List.mem_of_getElem? (i := 779) (by decide +kernel)) rfl), (xk_in (List.mem_of_getElem? (i := 780) (by decide +kernel)) rfl), ⟨_, rfl, rfl⟩, by decide⟩
end
