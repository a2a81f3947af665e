/-! THE CONSTANTS: two texts, a table, a flag; they lie below the base -/
def pw_s0 : List Int32 := [110, 105, 108, 32, 116, 32, 113, 117, 111, 116, 101, 32, 105, 102, 32, 101, 113, 117, 97, 108, 32, 99, 111, 110, 115, 32, 105, 109, 112, 108, 105, 101, 115, 32, 43, 32, 45, 32, 60, 32, 99, 111, 110, 115, 112, 32, 99, 97, 114, 32, 99, 100, 114, 32, 110, 97, 116, 112, 32, 115, 121, 109, 98, 111, 108, 112, 32, 104, 101, 105, 103, 104, 116, 32, 110, 111, 116, 32, 101, 118, 97, 108, 32, 119, 105, 116, 104, 32, 109, 97, 112, 32, 100, 101, 102, 117, 110, 32, 114, 101, 100, 111, 32, 117, 110, 100, 111, 32, 115, 104, 111, 119, 32]
def pw_s1 : List Int32 := [32, 97, 98, 99, 100, 101, 102, 103, 104, 105, 106, 107, 108, 109, 110, 111, 112, 113, 114, 115, 116, 117, 118, 119, 120, 121, 122, 48, 49, 50, 51, 52, 53, 54, 55, 56, 57, 43, 45, 42, 47, 60, 62, 61, 63, 33, 95]
def pw_len : List Nat := [113, 47]
def pw_byt : List (List Int32) := [pw_s0, pw_s1]
def pw_t0 : String := "nil t quote if equal cons implies + - < consp car cdr natp symbolp height not eval with map defun redo undo show "
def pw_t1 : String := " abcdefghijklmnopqrstuvwxyz0123456789+-*/<>=?!_"
def pw_bt (j : Nat) : Int := ([-1, -1, -1, 3, 2, 2, 2, 2, 2, 2, 1, 1, 1, 1, 1, 1, 1] : List Int).getD j 0
/-- what is said of the constants: at 0, 1 the texts, at 2, 3 their bytes, at 4 the table -/
def pw_F (g : pw_P) (U : State) (H : Heap) : Prop :=
  (∀ w ∈ pw_N, va_Nw w U) ∧ vk_S 2 pw_len pw_byt (fun i => g.2.2.2 i) (fun i => g.2.2.2 (2 + i)) (pw_A g) U H ∧ (vk_R "LispMachine$Store" 34 pw_t0 (g.2.2.2 0) U ∧ vk_R "LispMachine$Store" 42 pw_t1 (g.2.2.2 1) U ∧ vk_R "LispMachine$Reader" 76 pw_t1 (g.2.2.2 1) U ∧ vk_R "LispMachine$Teller" 92 pw_t1 (g.2.2.2 1) U) ∧
  va_Z "java/lang/String" "COMPACT_STRINGS" "Z" (.int 1) (pw_A g) U H ∧ va_Z "LispMachine" "BASE_TAKES" "[I" (.ref (g.2.2.2 4)) (pw_A g) U H ∧ va_T .int (g.2.2.2 4) 17 (fun j => .int (iZ (pw_bt j))) (pw_A g) U H ∧ va_AO "LispMachine$Definition" U ∧ va_AO "LispMachine$Call" U ∧ va_Zq "jdk/internal/util/Preconditions" "SIOOBE_FORMATTER" "Ljava/util/function/BiFunction;" (pw_A g) U H
theorem pw_nw_warm {s U : State} (hW : s.WarmedH U.vm) {w : Cond} (hw : w ∈ pw_N) (h : va_Nw w s) : va_Nw w U := by
  have hn := (List.mem_filter.mp hw).2
  cases w <;> first | exact va_Nw.warmF hW h | exact va_Nw.warmM hW h | exact Bool.noConfusion hn
theorem pw_nw_same {s U : State} (hv : s.vm = U.vm) {w : Cond} (hw : w ∈ pw_N) (h : va_Nw w s) : va_Nw w U := by
  have hn := (List.mem_filter.mp hw).2
  cases w <;> first | exact va_Nw.same rfl hv h | exact Bool.noConfusion hn
theorem pw_F.go {g : pw_P} {s U : State} {H : Heap} {locs : List Loc} (h : pw_F g s s.heap) (hW : s.WarmedH U.vm) (hS : va_S (pw_A g) s.heap H locs) : pw_F g U H := by
  obtain ⟨h1, h2, ⟨h3, h4, h5, h6⟩, h7, h8, h9, h10, h11, h12⟩ := h
  exact ⟨fun w hw => pw_nw_warm hW hw (h1 w hw), vk_S.moved hW.alike (h2.kept hS.2.1), ⟨h3.warm hW, h4.warm hW, h5.warm hW, h6.warm hW⟩, va_Z.moved hW.alike (h7.kept hS.2.1), va_Z.moved hW.alike (h8.kept hS.2.1), va_T.moved hW.alike (h9.kept hS.2.1), h10.moved hW.alike, h11.moved hW.alike, va_Zq.moved hW.alike (h12.kept hS.2.1)⟩
theorem pw_F.blind {g : pw_P} {U : State} (fr : JFrame) (mk : MethodId) (a : Array Value) (h : pw_F g U U.heap) : pw_F g (U.calling fr mk a) (U.calling fr mk a).heap := by
  obtain ⟨h1, h2, ⟨h3, h4, h5, h6⟩, h7, h8, h9, h10, h11, h12⟩ := h
  have hA : U.vm.Alike (U.calling fr mk a).vm := Vm.Alike.refl U.vm
  exact ⟨fun w hw => pw_nw_same (s := U) (U := U.calling fr mk a) rfl hw (h1 w hw), vk_S.moved hA h2, ⟨vk_R.same (u := U) (U := U.calling fr mk a) rfl h3, vk_R.same (u := U) (U := U.calling fr mk a) rfl h4, vk_R.same (u := U) (U := U.calling fr mk a) rfl h5, vk_R.same (u := U) (U := U.calling fr mk a) rfl h6⟩, va_Z.moved hA h7, va_Z.moved hA h8, va_T.moved hA h9, h10.moved hA, h11.moved hA, va_Zq.moved hA h12⟩
/-- what a method's start asks: the world, the tables, the constants -/
def pw_Pc (g : pw_P) (av : List Value) (w : pw_W) : Array Value → State → Prop := va_Pc av (fun U => pw_B g ≤ U.heap.size ∧ pw_H g w U.heap ∧ pw_K g U ∧ pw_F g U U.heap)
def pw_Qc (g : pw_P) (post : Option Value → pw_W → Prop) : Array Value → State → Outcome → State → Prop := fun _ st oc t => (∃ (r : Option Value) (w : pw_W), oc = .returned r ∧ post r w ∧ pw_H g w t.heap) ∧ va_F (pw_A g) st t
/-- A CONTRACT: from the world w with these arguments the method returns r with world w', post r w' -/
def pw_M (g : pw_P) (l : Launch) (y : MethodName) (cc : ByteArray) (nL : Nat) (ret : Option FieldType) (rm : Room) (av : List Value) (w : pw_W) (post : Option Value → pw_W → Prop) : Prop :=
  Met l y (.code y cc nL ret :: pw_T) rm (pw_Pc g av w) (pw_Qc g post) rm.cells rm.slots (pw_A g)
theorem pw_blind {g : pw_P} {av : List Value} {w : pw_W} : FrameBlind (pw_Pc g av w) := by
  intro a U fr mk h
  obtain ⟨h1, h2, h3, h4, h5⟩ := h
  exact ⟨h1, h2, h3, va_K.moved (u := U) (U := U.calling fr mk a) (Vm.Alike.refl U.vm) h4, pw_F.blind fr mk a h5⟩
/-- what stays through a method's walk -/
def pw_C (g : pw_P) (p : Program) (s : State) (m : MethodId) (args : Array Value) (meth : Method) (c : Code) (cc : ByteArray) (nL : Nat) (own : String) : Prop :=
  p.tables.exec = Jvm.exec ∧ c.code = cc ∧ c.maxLocals = nL ∧ s.vm.findClass own = some m.cls ∧ (∀ w ∈ pw_T, w.before args s = true) ∧ meth.locks = false ∧ pw_B g ≤ s.heap.size ∧ pw_K g s ∧ pw_F g s s.heap
/-- THE WALK: at pc, with these locals, this stack, this world -/
def pw_G (g : pw_P) (p : Program) (l : Launch) (e : Env) (R : Room) (s : State) (m : MethodId) (args : Array Value) (below : List Frame) (meth : Method) (c : Code) (nL : Nat) (Q : State → Prop) (cells slots pc : Nat) (lv : List (Nat × Value)) (st : List Value) (w : pw_W) : Prop :=
  ∀ (ls : Array Slot) (H : Heap) (locs : List Loc), lv_has ls nL lv → pw_H g w H → va_S (pw_A g) s.heap H locs → W p l e R s m args below meth c H locs cells slots Q (F0 m pc ls st)
abbrev pw_Q (g : pw_P) (below : List Frame) (post : Option Value → pw_W → Prop) (args : Array Value) (s : State) (rm : Room) : State → Prop := MQ below (pw_Qc g post) args s rm.cells rm.slots (pw_A g)
/-- a contract out of the walk from the entry -/
theorem pw_M.of {g : pw_P} {l : Launch} {y : MethodName} {cc : ByteArray} {nL : Nat} {ret : Option FieldType} {rm : Room} {av : List Value} {w : pw_W} {post : Option Value → pw_W → Prop} {lv : List (Nat × Value)} (hy : plainName y.cls = true) (hav : (lg_sl av).length ≤ nL) (hlv : lv_args 0 av = lv)
    (body : ∀ (p : Program) (e : Env) (s : State) (m : MethodId) (args : Array Value) (below : List Frame) (meth : Method) (c : Code), pw_C g p s m args meth c cc nL y.cls → meth.sig.returnType = ret → meth.name = y.name → pw_G g p l e rm s m args below meth c nL (pw_Q g below post args s rm) 0 0 0 lv [] w) : pw_M g l y cc nL ret rm av w post := by
  refine Met.ofW (cc := cc) (maxL := nL) (ret := ret) hy rfl ?_
  intro p e s m args below meth c s₁ B hml hv
  obtain ⟨rfl, hB, hH, hK, hF⟩ := hv
  have hts := atoms_spec (ws := Cond.code y cc nL ret :: pw_T) B.pre
  have hown : s.vm.findClass y.cls = some m.cls := findClass_of_methodNamed B.named
  have h0 := body p e s m av.toArray below meth c ⟨B.exec, B.bytes, hml, hown, fun w hw => hts w (List.mem_cons_of_mem _ hw), B.notSynchronized, hB, hK, hF⟩ B.returns (name_of_methodNamed B.named B.method).1
  have hl := lv_entry av (n := nL) hav
  rw [hlv] at hl
  rw [lg_entry_eq]
  exact h0 _ s.heap [] hl hH va_S.rf
