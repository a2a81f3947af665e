/-! TABLES -/
def pw_nest : Cond → Bool
  | .fieldLinkNest .. => true
  | .methodLinkNest .. => true
  | _ => false
def pw_T : List Cond := lw_tbl.filter goodWord
def pw_N : List Cond := lw_tbl.filter pw_nest
theorem pw_in {w : Cond} (h : w ∈ lw_tbl) (g : goodWord w = true) : w ∈ pw_T := List.mem_filter.mpr ⟨h, g⟩
theorem pw_inN {w : Cond} (h : w ∈ lw_tbl) (g : pw_nest w = true) : w ∈ pw_N := List.mem_filter.mpr ⟨h, g⟩
theorem pw_good {w : Cond} (h : w ∈ pw_T) : (w.onTables && w.keeps) = true ∨ ∃ ty, w = .arrayClass ty := good_of_word (List.mem_filter.mp h).2
theorem pw_goodIn {c0 c1 : Cond} (h : c1 ∈ pw_T) : GoodIn (c0 :: pw_T) (c1 :: pw_T) := by
  intro w hw
  rcases List.mem_cons.mp hw with rfl | hw
  · exact ⟨List.mem_cons_of_mem _ h, pw_good h⟩
  · exact ⟨List.mem_cons_of_mem _ hw, pw_good hw⟩
def pw_CL (ci : Nat) (q : vw_C) (ty0 : Nat → FieldType) : Prop := vwCl[ci]? = some q ∧ (∀ w ∈ u_ws q.1 q.2.1 q.2.2, w ∈ pw_T) ∧ (∀ k, k < q.2.2 → parseFieldDescriptor (q.2.1 k).2.2.1 = some (ty0 k)) ∧ ∀ a, a < q.2.2 → ∀ b, b < q.2.2 → a ≠ b → (q.2.1 a).2.1 ≠ (q.2.1 b).2.1
/-- what the tables say of a method that is called on an object / statically / as a constructor -/
def pw_Y0 (y : MethodName) (cc : ByteArray) (nL : Nat) (ret : Option FieldType) (n : Nat) : Prop := Cond.code y cc nL ret ∈ pw_T ∧ Cond.initialized y.cls ∈ pw_T ∧ y.cls ≠ "java/lang/invoke/MethodHandle" ∧ y.cls ≠ "java/lang/invoke/VarHandle" ∧ (parseMethodDescriptor y.desc).map (fun d => d.parameters.length) = some n
def pw_YV (y : MethodName) (cc : ByteArray) (nL : Nat) (ret : Option FieldType) (n : Nat) : Prop := pw_Y0 y cc nL ret n ∧ Cond.instanceMethod y ∈ pw_T ∧ Cond.selects y.cls y y ∈ pw_T
def pw_YS (y : MethodName) (cc : ByteArray) (nL : Nat) (ret : Option FieldType) (n : Nat) : Prop := pw_Y0 y cc nL ret n ∧ Cond.static y ∈ pw_T
def pw_YI (y : MethodName) (cc : ByteArray) (nL n : Nat) : Prop := pw_Y0 y cc nL none n ∧ Cond.instanceMethod y ∈ pw_T ∧ y.name = "<init>"
theorem pw_goodT {c1 : Cond} (h : c1 ∈ pw_T) : GoodIn pw_T (c1 :: pw_T) := by
  intro w hw
  rcases List.mem_cons.mp hw with rfl | hw
  · exact ⟨h, pw_good h⟩
  · exact ⟨hw, pw_good hw⟩
