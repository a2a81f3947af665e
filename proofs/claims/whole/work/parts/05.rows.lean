/-! LOCALS: read and set by their numbers, in order -/
def pl_g (lv : List (Nat × Value)) (i : Nat) : Option Value := (lv.find? (fun q => q.1 == i)).map (fun q => q.2)
theorem pl_get {ls : Array Slot} {nL : Nat} {lv : List (Nat × Value)} {i : Nat} {v : Value} (h : lv_has ls nL lv) (hg : pl_g lv i = some v) : ls[i]? = some (.val v) := by
  unfold pl_g at hg
  cases hf : lv.find? (fun q => q.1 == i) with
  | none => rw [hf] at hg; cases hg
  | some q =>
    rw [hf] at hg
    have h1 := List.mem_of_find?_eq_some hf
    have h2 := List.find?_some hf
    have h3 : q.1 = i := by simpa using h2
    have h4 : q.2 = v := Option.some.inj hg
    rw [← h3, ← h4]
    exact h.2.2 q h1
def pl_i (i : Nat) (v : Value) : List (Nat × Value) → List (Nat × Value)
  | [] => [(i, v)]
  | q :: r => if q.1 < i then q :: pl_i i v r else (i, v) :: q :: r
theorem pl_i_mem {i : Nat} {v : Value} : ∀ (l : List (Nat × Value)) (q : Nat × Value), q ∈ pl_i i v l → q = (i, v) ∨ q ∈ l
  | [], q, h => by
    rw [pl_i] at h
    exact Or.inl (List.mem_singleton.mp h)
  | x :: r, q, h => by
    rw [pl_i] at h
    split at h
    · rcases List.mem_cons.mp h with h | h
      · exact Or.inr (by rw [h]; exact List.mem_cons_self)
      · rcases pl_i_mem r q h with h | h
        · exact Or.inl h
        · exact Or.inr (List.mem_cons_of_mem _ h)
    · rcases List.mem_cons.mp h with h | h
      · exact Or.inl h
      · exact Or.inr h
def pl_1 (lv : List (Nat × Value)) (i : Nat) (v : Value) : List (Nat × Value) := pl_i i v (lv.filter (fun q => !(q.1 == i) && !(q.1 + 1 == i && q.2.category == 2)))
def pl_2 (lv : List (Nat × Value)) (i : Nat) (v : Value) : List (Nat × Value) := pl_i i v (lv.filter (fun q => !(q.1 == i) && (!(q.1 == i + 1) && !(q.1 + 1 == i && q.2.category == 2))))
theorem pl_has {ls : Array Slot} {nL i : Nat} {v : Value} {l l' : List (Nat × Value)} (h : lv_has ls nL ((i, v) :: l)) (hl : pl_i i v l = l') : lv_has ls nL l' := by
  subst hl
  refine ⟨h.1, h.2.1, fun q hq => h.2.2 q ?_⟩
  rcases pl_i_mem _ q hq with h | h
  · rw [h]; exact List.mem_cons_self
  · exact List.mem_cons_of_mem _ h
theorem iz_0 : iZ 0 = 0 := by decide
theorem lz_0 : lZ 0 = 0 := by decide
def cmpZ (a b : Int) : Int := if b < a then 1 else if a = b then 0 else -1
theorem cmpZ_in (a b : Int) : inI (cmpZ a b) := by unfold cmpZ; split <;> (try split) <;> decide
theorem cmpZ_lt (a b : Int) : cmpZ a b < 0 ↔ a < b := by unfold cmpZ; split <;> (try split) <;> constructor <;> intro h <;> omega
theorem cmpZ_le (a b : Int) : cmpZ a b ≤ 0 ↔ a ≤ b := by unfold cmpZ; split <;> (try split) <;> constructor <;> intro h <;> omega
theorem cmpZ_eq (a b : Int) : cmpZ a b = 0 ↔ a = b := by unfold cmpZ; split <;> (try split) <;> constructor <;> intro h <;> omega
theorem cmpZ_of {a b : Int} (ha : inL a) (hb : inL b) : lg_cmp (lZ a) (lZ b) = iZ (cmpZ a b) := by
  unfold lg_cmp cmpZ
  simp only [gt_iff_lt, lz_lt hb ha, lz_eq ha hb]
  split <;> (try split) <;> decide
section
variable {g : pw_P} {p : Program} {l : Launch} {e : Env} {R : Room} {s : State} {m : MethodId} {args : Array Value} {below : List Frame} {meth : Method} {c : Code} {cc : ByteArray} {nL : Nat} {own : String} {Q : State → Prop} {cells slots pc : Nat} {lv : List (Nat × Value)} {st : List Value} {w : pw_W}
theorem pw_iconst (C : pw_C g p s m args meth c cc nL own) {n : Int} (hd : decode cc pc = .ok (.iconst n, 1))
    (k : pw_G g p l e R s m args below meth c nL Q cells slots (pc + 1) lv (.int (iZ n) :: st) w) : pw_G g p l e R s m args below meth c nL Q cells slots pc lv st w :=
  fun ls H locs hl hH hS => lv_iconst C.1 C.2.1 hd rfl (k ls H locs hl hH hS)
theorem pw_bipush (C : pw_C g p s m args meth c cc nL own) {n : Int} (hd : decode cc pc = .ok (.bipush n, 2)) (hv : (Int8.ofInt n).toInt32 = iZ n)
    (k : pw_G g p l e R s m args below meth c nL Q cells slots (pc + 2) lv (.int (iZ n) :: st) w) : pw_G g p l e R s m args below meth c nL Q cells slots pc lv st w :=
  fun ls H locs hl hH hS => lv_bipush C.1 C.2.1 hd hv (k ls H locs hl hH hS)
theorem pw_sipush (C : pw_C g p s m args meth c cc nL own) {n : Int} (hd : decode cc pc = .ok (.sipush n, 3)) (hv : (Int16.ofInt n).toInt32 = iZ n)
    (k : pw_G g p l e R s m args below meth c nL Q cells slots (pc + 3) lv (.int (iZ n) :: st) w) : pw_G g p l e R s m args below meth c nL Q cells slots pc lv st w :=
  fun ls H locs hl hH hS => lv_sipush C.1 C.2.1 hd hv (k ls H locs hl hH hS)
theorem pw_lconst (C : pw_C g p s m args meth c cc nL own) {n : Fin 2} {z : Int} (hd : decode cc pc = .ok (.lconst n, 1)) (hv : Int64.ofNat (n : Nat) = lZ z)
    (k : pw_G g p l e R s m args below meth c nL Q cells slots (pc + 1) lv (.long (lZ z) :: st) w) : pw_G g p l e R s m args below meth c nL Q cells slots pc lv st w :=
  fun ls H locs hl hH hS => lv_lconst C.1 C.2.1 hd hv (k ls H locs hl hH hS)
theorem pw_ldc (C : pw_C g p s m args meth c cc nL own) {idx : Nat} {x : Int32} {z : Int} (hc : Cond.constant own idx x ∈ pw_T) (hv : x = iZ z) (hd : decode cc pc = .ok (.ldc idx, 2))
    (k : pw_G g p l e R s m args below meth c nL Q cells slots (pc + 2) lv (.int (iZ z) :: st) w) : pw_G g p l e R s m args below meth c nL Q cells slots pc lv st w :=
  fun ls H locs hl hH hS => lv_ldc C.1 C.2.1 C.2.2.2.1 (C.2.2.2.2.1 _ hc) hd (by rw [hv]; exact k ls H locs hl hH hS)
theorem pw_ldc2 (C : pw_C g p s m args meth c cc nL own) {idx : Nat} {x : Int64} {z : Int} (hc : Cond.constantLong own idx x ∈ pw_T) (hv : x = lZ z) (hd : decode cc pc = .ok (.ldc2_w idx, 3))
    (k : pw_G g p l e R s m args below meth c nL Q cells slots (pc + 3) lv (.long (lZ z) :: st) w) : pw_G g p l e R s m args below meth c nL Q cells slots pc lv st w :=
  fun ls H locs hl hH hS => lv_ldc2 C.1 C.2.1 C.2.2.2.1 (C.2.2.2.2.1 _ hc) hd (by rw [hv]; exact k ls H locs hl hH hS)
theorem pw_iload_n (C : pw_C g p s m args meth c cc nL own) {j : Fin 4} {i : Nat} {x : Int32} (hd : decode cc pc = .ok (.iload_n j, 1)) (hi : (j : Nat) = i) (hg : pl_g lv i = some (.int x))
    (k : pw_G g p l e R s m args below meth c nL Q cells slots (pc + 1) lv (.int x :: st) w) : pw_G g p l e R s m args below meth c nL Q cells slots pc lv st w :=
  fun ls H locs hl hH hS => lv_iload_n C.1 C.2.1 hd hi (pl_get hl hg) (k ls H locs hl hH hS)
theorem pw_iload (C : pw_C g p s m args meth c cc nL own) {i : Nat} {x : Int32} (hd : decode cc pc = .ok (.iload i, 2)) (hg : pl_g lv i = some (.int x))
    (k : pw_G g p l e R s m args below meth c nL Q cells slots (pc + 2) lv (.int x :: st) w) : pw_G g p l e R s m args below meth c nL Q cells slots pc lv st w :=
  fun ls H locs hl hH hS => lv_iload C.1 C.2.1 hd (pl_get hl hg) (k ls H locs hl hH hS)
theorem pw_lload_n (C : pw_C g p s m args meth c cc nL own) {j : Fin 4} {i : Nat} {x : Int64} (hd : decode cc pc = .ok (.lload_n j, 1)) (hi : (j : Nat) = i) (hg : pl_g lv i = some (.long x))
    (k : pw_G g p l e R s m args below meth c nL Q cells slots (pc + 1) lv (.long x :: st) w) : pw_G g p l e R s m args below meth c nL Q cells slots pc lv st w :=
  fun ls H locs hl hH hS => lv_lload_n C.1 C.2.1 hd hi (pl_get hl hg) (k ls H locs hl hH hS)
theorem pw_lload (C : pw_C g p s m args meth c cc nL own) {i : Nat} {x : Int64} (hd : decode cc pc = .ok (.lload i, 2)) (hg : pl_g lv i = some (.long x))
    (k : pw_G g p l e R s m args below meth c nL Q cells slots (pc + 2) lv (.long x :: st) w) : pw_G g p l e R s m args below meth c nL Q cells slots pc lv st w :=
  fun ls H locs hl hH hS => lv_lload C.1 C.2.1 hd (pl_get hl hg) (k ls H locs hl hH hS)
theorem pw_aload_n (C : pw_C g p s m args meth c cc nL own) {j : Fin 4} {i : Nat} {v : Value} (hd : decode cc pc = .ok (.aload_n j, 1)) (hi : (j : Nat) = i) (hg : pl_g lv i = some v) (hv : v = .null ∨ ∃ a, v = .ref a)
    (k : pw_G g p l e R s m args below meth c nL Q cells slots (pc + 1) lv (v :: st) w) : pw_G g p l e R s m args below meth c nL Q cells slots pc lv st w := by
  intro ls H locs hl hH hS
  rcases hv with rfl | ⟨a, rfl⟩
  · exact lv_aload_nN C.1 C.2.1 hd hi (pl_get hl hg) (k ls H locs hl hH hS)
  · exact lv_aload_n C.1 C.2.1 hd hi (pl_get hl hg) (k ls H locs hl hH hS)
theorem pw_aload (C : pw_C g p s m args meth c cc nL own) {i : Nat} {v : Value} (hd : decode cc pc = .ok (.aload i, 2)) (hg : pl_g lv i = some v) (hv : v = .null ∨ ∃ a, v = .ref a)
    (k : pw_G g p l e R s m args below meth c nL Q cells slots (pc + 2) lv (v :: st) w) : pw_G g p l e R s m args below meth c nL Q cells slots pc lv st w := by
  intro ls H locs hl hH hS
  rcases hv with rfl | ⟨a, rfl⟩
  · exact lv_aloadN C.1 C.2.1 hd (pl_get hl hg) (k ls H locs hl hH hS)
  · exact lv_aload C.1 C.2.1 hd (pl_get hl hg) (k ls H locs hl hH hS)
theorem pw_istore_n (C : pw_C g p s m args meth c cc nL own) {j : Fin 4} {i : Nat} {x : Int32} {lv' : List (Nat × Value)} (hd : decode cc pc = .ok (.istore_n j, 1)) (hi : (j : Nat) = i) (hn : i < nL) (hl' : pl_1 lv i (.int x) = lv')
    (k : pw_G g p l e R s m args below meth c nL Q cells slots (pc + 1) lv' st w) : pw_G g p l e R s m args below meth c nL Q cells slots pc lv (.int x :: st) w :=
  fun ls H locs hl hH hS => lv_istore_n C.1 C.2.1 hd hi hl hn rfl (fun ls' h' => k ls' H locs (pl_has h' hl') hH hS)
theorem pw_istore (C : pw_C g p s m args meth c cc nL own) {i : Nat} {x : Int32} {lv' : List (Nat × Value)} (hd : decode cc pc = .ok (.istore i, 2)) (hn : i < nL) (hl' : pl_1 lv i (.int x) = lv')
    (k : pw_G g p l e R s m args below meth c nL Q cells slots (pc + 2) lv' st w) : pw_G g p l e R s m args below meth c nL Q cells slots pc lv (.int x :: st) w :=
  fun ls H locs hl hH hS => lv_istore C.1 C.2.1 hd hl hn rfl (fun ls' h' => k ls' H locs (pl_has h' hl') hH hS)
theorem pw_lstore_n (C : pw_C g p s m args meth c cc nL own) {j : Fin 4} {i : Nat} {x : Int64} {lv' : List (Nat × Value)} (hd : decode cc pc = .ok (.lstore_n j, 1)) (hi : (j : Nat) = i) (hn : i + 1 < nL) (hl' : pl_2 lv i (.long x) = lv')
    (k : pw_G g p l e R s m args below meth c nL Q cells slots (pc + 1) lv' st w) : pw_G g p l e R s m args below meth c nL Q cells slots pc lv (.long x :: st) w :=
  fun ls H locs hl hH hS => lv_lstore_n C.1 C.2.1 hd hi hl hn rfl (fun ls' h' => k ls' H locs (pl_has h' hl') hH hS)
theorem pw_lstore (C : pw_C g p s m args meth c cc nL own) {i : Nat} {x : Int64} {lv' : List (Nat × Value)} (hd : decode cc pc = .ok (.lstore i, 2)) (hn : i + 1 < nL) (hl' : pl_2 lv i (.long x) = lv')
    (k : pw_G g p l e R s m args below meth c nL Q cells slots (pc + 2) lv' st w) : pw_G g p l e R s m args below meth c nL Q cells slots pc lv (.long x :: st) w :=
  fun ls H locs hl hH hS => lv_lstore C.1 C.2.1 hd hl hn rfl (fun ls' h' => k ls' H locs (pl_has h' hl') hH hS)
theorem pw_astore_n (C : pw_C g p s m args meth c cc nL own) {j : Fin 4} {i : Nat} {v : Value} {lv' : List (Nat × Value)} (hd : decode cc pc = .ok (.astore_n j, 1)) (hi : (j : Nat) = i) (hn : i < nL) (hv : v = .null ∨ ∃ a, v = .ref a) (hl' : pl_1 lv i v = lv')
    (k : pw_G g p l e R s m args below meth c nL Q cells slots (pc + 1) lv' st w) : pw_G g p l e R s m args below meth c nL Q cells slots pc lv (v :: st) w := by
  intro ls H locs hl hH hS
  rcases hv with rfl | ⟨a, rfl⟩
  · exact lv_astore_nN C.1 C.2.1 hd hi hl hn rfl (fun ls' h' => k ls' H locs (pl_has h' hl') hH hS)
  · exact lv_astore_n C.1 C.2.1 hd hi hl hn rfl (fun ls' h' => k ls' H locs (pl_has h' hl') hH hS)
theorem pw_astore (C : pw_C g p s m args meth c cc nL own) {i : Nat} {v : Value} {lv' : List (Nat × Value)} (hd : decode cc pc = .ok (.astore i, 2)) (hn : i < nL) (hv : v = .null ∨ ∃ a, v = .ref a) (hl' : pl_1 lv i v = lv')
    (k : pw_G g p l e R s m args below meth c nL Q cells slots (pc + 2) lv' st w) : pw_G g p l e R s m args below meth c nL Q cells slots pc lv (v :: st) w := by
  intro ls H locs hl hH hS
  rcases hv with rfl | ⟨a, rfl⟩
  · exact lv_astoreN C.1 C.2.1 hd hl hn rfl (fun ls' h' => k ls' H locs (pl_has h' hl') hH hS)
  · exact lv_astore C.1 C.2.1 hd hl hn rfl (fun ls' h' => k ls' H locs (pl_has h' hl') hH hS)
theorem pw_iinc (C : pw_C g p s m args meth c cc nL own) {i : Nat} {n z : Int} {lv' : List (Nat × Value)} (hd : decode cc pc = .ok (.iinc i n, 3)) (hg : pl_g lv i = some (.int (iZ z))) (hn : i < nL) (hl' : pl_1 lv i (.int (iZ (z + n))) = lv')
    (k : pw_G g p l e R s m args below meth c nL Q cells slots (pc + 3) lv' st w) : pw_G g p l e R s m args below meth c nL Q cells slots pc lv st w := by
  intro ls H locs hl hH hS
  have hl2 : lv_has ls nL ((i, .int (iZ z)) :: lv) := ⟨hl.1, hl.2.1, fun q hq => by
    rcases List.mem_cons.mp hq with rfl | hq
    · exact pl_get hl hg
    · exact hl.2.2 q hq⟩
  refine lv_iinc (k := 0) C.1 C.2.1 hd hl2 rfl (iz_add z n) hn rfl (fun ls' h' => k ls' H locs (pl_has h' ?_) hH hS)
  rw [← hl']
  unfold pl_1
  congr 1
  rw [List.filter_cons_of_neg (by simp)]
theorem pw_iadd (C : pw_C g p s m args meth c cc nL own) {a b : Int} (hd : decode cc pc = .ok (.iadd, 1))
    (k : pw_G g p l e R s m args below meth c nL Q cells slots (pc + 1) lv (.int (iZ (a + b)) :: st) w) : pw_G g p l e R s m args below meth c nL Q cells slots pc lv (.int (iZ b) :: .int (iZ a) :: st) w :=
  fun ls H locs hl hH hS => lv_iadd C.1 C.2.1 hd (by rw [iz_add]; exact k ls H locs hl hH hS)
theorem pw_isub (C : pw_C g p s m args meth c cc nL own) {a b : Int} (hd : decode cc pc = .ok (.isub, 1))
    (k : pw_G g p l e R s m args below meth c nL Q cells slots (pc + 1) lv (.int (iZ (a - b)) :: st) w) : pw_G g p l e R s m args below meth c nL Q cells slots pc lv (.int (iZ b) :: .int (iZ a) :: st) w :=
  fun ls H locs hl hH hS => lv_isub C.1 C.2.1 hd (by rw [iz_sub]; exact k ls H locs hl hH hS)
theorem pw_imul (C : pw_C g p s m args meth c cc nL own) {a b : Int} (hd : decode cc pc = .ok (.imul, 1))
    (k : pw_G g p l e R s m args below meth c nL Q cells slots (pc + 1) lv (.int (iZ (a * b)) :: st) w) : pw_G g p l e R s m args below meth c nL Q cells slots pc lv (.int (iZ b) :: .int (iZ a) :: st) w :=
  fun ls H locs hl hH hS => lv_imul C.1 C.2.1 hd (by rw [iz_mul]; exact k ls H locs hl hH hS)
theorem pw_ladd (C : pw_C g p s m args meth c cc nL own) {a b : Int} (hd : decode cc pc = .ok (.ladd, 1))
    (k : pw_G g p l e R s m args below meth c nL Q cells slots (pc + 1) lv (.long (lZ (a + b)) :: st) w) : pw_G g p l e R s m args below meth c nL Q cells slots pc lv (.long (lZ b) :: .long (lZ a) :: st) w :=
  fun ls H locs hl hH hS => lv_ladd C.1 C.2.1 hd (by rw [lz_add]; exact k ls H locs hl hH hS)
theorem pw_lsub (C : pw_C g p s m args meth c cc nL own) {a b : Int} (hd : decode cc pc = .ok (.lsub, 1))
    (k : pw_G g p l e R s m args below meth c nL Q cells slots (pc + 1) lv (.long (lZ (a - b)) :: st) w) : pw_G g p l e R s m args below meth c nL Q cells slots pc lv (.long (lZ b) :: .long (lZ a) :: st) w :=
  fun ls H locs hl hH hS => lv_lsub C.1 C.2.1 hd (by rw [lz_sub]; exact k ls H locs hl hH hS)
theorem pw_lmul (C : pw_C g p s m args meth c cc nL own) {a b : Int} (hd : decode cc pc = .ok (.lmul, 1))
    (k : pw_G g p l e R s m args below meth c nL Q cells slots (pc + 1) lv (.long (lZ (a * b)) :: st) w) : pw_G g p l e R s m args below meth c nL Q cells slots pc lv (.long (lZ b) :: .long (lZ a) :: st) w :=
  fun ls H locs hl hH hS => lv_lmul C.1 C.2.1 hd (by rw [lz_mul]; exact k ls H locs hl hH hS)
theorem pw_iand (C : pw_C g p s m args meth c cc nL own) {x y : Int32} {z : Int} (hd : decode cc pc = .ok (.iand, 1)) (hz : (x &&& y) = iZ z)
    (k : pw_G g p l e R s m args below meth c nL Q cells slots (pc + 1) lv (.int (iZ z) :: st) w) : pw_G g p l e R s m args below meth c nL Q cells slots pc lv (.int y :: .int x :: st) w :=
  fun ls H locs hl hH hS => lv_iand C.1 C.2.1 hd (by rw [hz]; exact k ls H locs hl hH hS)
theorem pw_ior (C : pw_C g p s m args meth c cc nL own) {x y : Int32} {z : Int} (hd : decode cc pc = .ok (.ior, 1)) (hz : (x ||| y) = iZ z)
    (k : pw_G g p l e R s m args below meth c nL Q cells slots (pc + 1) lv (.int (iZ z) :: st) w) : pw_G g p l e R s m args below meth c nL Q cells slots pc lv (.int y :: .int x :: st) w :=
  fun ls H locs hl hH hS => lv_ior C.1 C.2.1 hd (by rw [hz]; exact k ls H locs hl hH hS)
theorem pw_ishl (C : pw_C g p s m args meth c cc nL own) {x y : Int32} {z : Int} (hd : decode cc pc = .ok (.ishl, 1)) (hz : (x <<< (y &&& 31)) = iZ z)
    (k : pw_G g p l e R s m args below meth c nL Q cells slots (pc + 1) lv (.int (iZ z) :: st) w) : pw_G g p l e R s m args below meth c nL Q cells slots pc lv (.int y :: .int x :: st) w :=
  fun ls H locs hl hH hS => lv_ishl C.1 C.2.1 hd (by rw [hz]; exact k ls H locs hl hH hS)
theorem pw_ishr (C : pw_C g p s m args meth c cc nL own) {x y : Int32} {z : Int} (hd : decode cc pc = .ok (.ishr, 1)) (hz : (x >>> (y &&& 31)) = iZ z)
    (k : pw_G g p l e R s m args below meth c nL Q cells slots (pc + 1) lv (.int (iZ z) :: st) w) : pw_G g p l e R s m args below meth c nL Q cells slots pc lv (.int y :: .int x :: st) w :=
  fun ls H locs hl hH hS => lv_ishr C.1 C.2.1 hd (by rw [hz]; exact k ls H locs hl hH hS)
theorem pw_iushr (C : pw_C g p s m args meth c cc nL own) {x y : Int32} {z : Int} (hd : decode cc pc = .ok (.iushr, 1)) (hz : (x.toUInt32 >>> (y.toUInt32 &&& Int32.toUInt32 31)).toInt32 = iZ z)
    (k : pw_G g p l e R s m args below meth c nL Q cells slots (pc + 1) lv (.int (iZ z) :: st) w) : pw_G g p l e R s m args below meth c nL Q cells slots pc lv (.int y :: .int x :: st) w :=
  fun ls H locs hl hH hS => lv_iushr C.1 C.2.1 hd hz (k ls H locs hl hH hS)
theorem pw_lushr (C : pw_C g p s m args meth c cc nL own) {x : Int64} {y : Int32} {z : Int} (hd : decode cc pc = .ok (.lushr, 1)) (hz : (x.toUInt64 >>> (y.toInt64.toUInt64 &&& Int64.toUInt64 63)).toInt64 = lZ z)
    (k : pw_G g p l e R s m args below meth c nL Q cells slots (pc + 1) lv (.long (lZ z) :: st) w) : pw_G g p l e R s m args below meth c nL Q cells slots pc lv (.int y :: .long x :: st) w :=
  fun ls H locs hl hH hS => lv_lushr C.1 C.2.1 hd hz (k ls H locs hl hH hS)
theorem pw_lshr (C : pw_C g p s m args meth c cc nL own) {x : Int64} {y : Int32} {z : Int} (hd : decode cc pc = .ok (.lshr, 1)) (hz : x >>> (y.toInt64 &&& 63) = lZ z)
    (k : pw_G g p l e R s m args below meth c nL Q cells slots (pc + 1) lv (.long (lZ z) :: st) w) : pw_G g p l e R s m args below meth c nL Q cells slots pc lv (.int y :: .long x :: st) w :=
  fun ls H locs hl hH hS => lv_lshr C.1 C.2.1 hd hz (k ls H locs hl hH hS)
theorem pw_i2c (C : pw_C g p s m args meth c cc nL own) {x : Int32} {z : Int} (hd : decode cc pc = .ok (.i2c, 1)) (hz : (x.toUInt32 % 65536).toInt32 = iZ z)
    (k : pw_G g p l e R s m args below meth c nL Q cells slots (pc + 1) lv (.int (iZ z) :: st) w) : pw_G g p l e R s m args below meth c nL Q cells slots pc lv (.int x :: st) w :=
  fun ls H locs hl hH hS => lv_i2c C.1 C.2.1 hd hz (k ls H locs hl hH hS)
theorem pw_i2b (C : pw_C g p s m args meth c cc nL own) {x : Int32} {z : Int} (hd : decode cc pc = .ok (.i2b, 1)) (hz : x.toInt8.toInt32 = iZ z)
    (k : pw_G g p l e R s m args below meth c nL Q cells slots (pc + 1) lv (.int (iZ z) :: st) w) : pw_G g p l e R s m args below meth c nL Q cells slots pc lv (.int x :: st) w :=
  fun ls H locs hl hH hS => lv_i2b C.1 C.2.1 hd hz (k ls H locs hl hH hS)
theorem pw_i2l (C : pw_C g p s m args meth c cc nL own) {a : Int} (ha : inI a) (hd : decode cc pc = .ok (.i2l, 1))
    (k : pw_G g p l e R s m args below meth c nL Q cells slots (pc + 1) lv (.long (lZ a) :: st) w) : pw_G g p l e R s m args below meth c nL Q cells slots pc lv (.int (iZ a) :: st) w :=
  fun ls H locs hl hH hS => lv_i2l C.1 C.2.1 hd (iz_i2l ha) (k ls H locs hl hH hS)
theorem pw_l2i (C : pw_C g p s m args meth c cc nL own) {a : Int} (hd : decode cc pc = .ok (.l2i, 1))
    (k : pw_G g p l e R s m args below meth c nL Q cells slots (pc + 1) lv (.int (iZ a) :: st) w) : pw_G g p l e R s m args below meth c nL Q cells slots pc lv (.long (lZ a) :: st) w :=
  fun ls H locs hl hH hS => lv_l2i C.1 C.2.1 hd (iz_l2i a) (k ls H locs hl hH hS)
theorem pw_lcmp (C : pw_C g p s m args meth c cc nL own) {a b : Int} (ha : inL a) (hb : inL b) (hd : decode cc pc = .ok (.lcmp, 1))
    (k : pw_G g p l e R s m args below meth c nL Q cells slots (pc + 1) lv (.int (iZ (cmpZ a b)) :: st) w) : pw_G g p l e R s m args below meth c nL Q cells slots pc lv (.long (lZ b) :: .long (lZ a) :: st) w :=
  fun ls H locs hl hH hS => W.lcmp C.1 C.2.1 hd (by rw [cmpZ_of ha hb]; exact k ls H locs hl hH hS)
theorem pw_dup (C : pw_C g p s m args meth c cc nL own) {v : Value} (hd : decode cc pc = .ok (.dup, 1)) (hv : v.category = 1)
    (k : pw_G g p l e R s m args below meth c nL Q cells slots (pc + 1) lv (v :: v :: st) w) : pw_G g p l e R s m args below meth c nL Q cells slots pc lv (v :: st) w :=
  fun ls H locs hl hH hS => lv_dup C.1 C.2.1 hd hv (k ls H locs hl hH hS)
theorem pw_pop (C : pw_C g p s m args meth c cc nL own) {v : Value} (hd : decode cc pc = .ok (.pop, 1)) (hv : v.category = 1)
    (k : pw_G g p l e R s m args below meth c nL Q cells slots (pc + 1) lv st w) : pw_G g p l e R s m args below meth c nL Q cells slots pc lv (v :: st) w :=
  fun ls H locs hl hH hS => lv_pop C.1 C.2.1 hd hv (k ls H locs hl hH hS)
theorem pw_dup_x1 (C : pw_C g p s m args meth c cc nL own) {v u : Value} (hd : decode cc pc = .ok (.dup_x1, 1)) (hv : v.category = 1) (hu : u.category = 1)
    (k : pw_G g p l e R s m args below meth c nL Q cells slots (pc + 1) lv (v :: u :: v :: st) w) : pw_G g p l e R s m args below meth c nL Q cells slots pc lv (v :: u :: st) w :=
  fun ls H locs hl hH hS => lv_dup_x1 C.1 C.2.1 hd hv hu (k ls H locs hl hH hS)
theorem pw_null (C : pw_C g p s m args meth c cc nL own) (hd : decode cc pc = .ok (.aconst_null, 1))
    (k : pw_G g p l e R s m args below meth c nL Q cells slots (pc + 1) lv (.null :: st) w) : pw_G g p l e R s m args below meth c nL Q cells slots pc lv st w :=
  fun ls H locs hl hH hS => lv_null C.1 C.2.1 hd (k ls H locs hl hH hS)
theorem pw_goto (C : pw_C g p s m args meth c cc nL own) {off : Int} {tgt : Nat} (hd : decode cc pc = .ok (.goto off, 3)) (ht : (pc : Int) + off = (tgt : Int)) (k : pw_G g p l e R s m args below meth c nL Q cells slots tgt lv st w) : pw_G g p l e R s m args below meth c nL Q cells slots pc lv st w :=
  fun ls H locs hl hH hS => lv_goto C.1 C.2.1 hd ht (k ls H locs hl hH hS)
theorem pw_if_eq (C : pw_C g p s m args meth c cc nL own) {z : Int} {off : Int} {tgt : Nat} (hz : inI z) (hd : decode cc pc = .ok (.ifCond .eq off, 3)) (ht : (pc : Int) + off = (tgt : Int)) (kt : z = 0 → pw_G g p l e R s m args below meth c nL Q cells slots tgt lv st w) (kf : z ≠ 0 → pw_G g p l e R s m args below meth c nL Q cells slots (pc + 3) lv st w) : pw_G g p l e R s m args below meth c nL Q cells slots pc lv (.int (iZ z) :: st) w :=
  fun ls H locs hl hH hS => lv_if_eq C.1 C.2.1 hd ht (fun h => kt ((iz_eq hz ⟨by decide, by decide⟩).mp (h.trans iz_0.symm)) ls H locs hl hH hS) (fun h => kf (fun q => h ((congrArg iZ q).trans iz_0)) ls H locs hl hH hS)
theorem pw_if_ne (C : pw_C g p s m args meth c cc nL own) {z : Int} {off : Int} {tgt : Nat} (hz : inI z) (hd : decode cc pc = .ok (.ifCond .ne off, 3)) (ht : (pc : Int) + off = (tgt : Int)) (kt : z ≠ 0 → pw_G g p l e R s m args below meth c nL Q cells slots tgt lv st w) (kf : z = 0 → pw_G g p l e R s m args below meth c nL Q cells slots (pc + 3) lv st w) : pw_G g p l e R s m args below meth c nL Q cells slots pc lv (.int (iZ z) :: st) w :=
  fun ls H locs hl hH hS => lv_if_ne C.1 C.2.1 hd ht (fun h => kt (fun q => h ((congrArg iZ q).trans iz_0)) ls H locs hl hH hS) (fun h => kf ((iz_eq hz ⟨by decide, by decide⟩).mp (h.trans iz_0.symm)) ls H locs hl hH hS)
theorem pw_if_lt (C : pw_C g p s m args meth c cc nL own) {z : Int} {off : Int} {tgt : Nat} (hz : inI z) (hd : decode cc pc = .ok (.ifCond .lt off, 3)) (ht : (pc : Int) + off = (tgt : Int)) (kt : z < 0 → pw_G g p l e R s m args below meth c nL Q cells slots tgt lv st w) (kf : 0 ≤ z → pw_G g p l e R s m args below meth c nL Q cells slots (pc + 3) lv st w) : pw_G g p l e R s m args below meth c nL Q cells slots pc lv (.int (iZ z) :: st) w :=
  fun ls H locs hl hH hS => lv_if_lt C.1 C.2.1 hd ht (fun h => kt ((iz_lt hz ⟨by decide, by decide⟩).mp (by rw [iz_0]; exact h)) ls H locs hl hH hS) (fun h => kf (Int.not_lt.mp (fun q => h (by rw [← iz_0]; exact (iz_lt hz ⟨by decide, by decide⟩).mpr q))) ls H locs hl hH hS)
theorem pw_if_ge (C : pw_C g p s m args meth c cc nL own) {z : Int} {off : Int} {tgt : Nat} (hz : inI z) (hd : decode cc pc = .ok (.ifCond .ge off, 3)) (ht : (pc : Int) + off = (tgt : Int)) (kt : 0 ≤ z → pw_G g p l e R s m args below meth c nL Q cells slots tgt lv st w) (kf : z < 0 → pw_G g p l e R s m args below meth c nL Q cells slots (pc + 3) lv st w) : pw_G g p l e R s m args below meth c nL Q cells slots pc lv (.int (iZ z) :: st) w :=
  fun ls H locs hl hH hS => lv_if_ge C.1 C.2.1 hd ht (fun h => kt ((iz_le ⟨by decide, by decide⟩ hz).mp (by rw [iz_0]; exact h)) ls H locs hl hH hS) (fun h => kf (Int.not_le.mp (fun q => h (by rw [← iz_0]; exact (iz_le ⟨by decide, by decide⟩ hz).mpr q))) ls H locs hl hH hS)
theorem pw_if_gt (C : pw_C g p s m args meth c cc nL own) {z : Int} {off : Int} {tgt : Nat} (hz : inI z) (hd : decode cc pc = .ok (.ifCond .gt off, 3)) (ht : (pc : Int) + off = (tgt : Int)) (kt : 0 < z → pw_G g p l e R s m args below meth c nL Q cells slots tgt lv st w) (kf : z ≤ 0 → pw_G g p l e R s m args below meth c nL Q cells slots (pc + 3) lv st w) : pw_G g p l e R s m args below meth c nL Q cells slots pc lv (.int (iZ z) :: st) w :=
  fun ls H locs hl hH hS => lv_if_gt C.1 C.2.1 hd ht (fun h => kt ((iz_lt ⟨by decide, by decide⟩ hz).mp (by rw [iz_0]; exact h)) ls H locs hl hH hS) (fun h => kf (Int.not_lt.mp (fun q => h (by rw [← iz_0]; exact (iz_lt ⟨by decide, by decide⟩ hz).mpr q))) ls H locs hl hH hS)
theorem pw_if_le (C : pw_C g p s m args meth c cc nL own) {z : Int} {off : Int} {tgt : Nat} (hz : inI z) (hd : decode cc pc = .ok (.ifCond .le off, 3)) (ht : (pc : Int) + off = (tgt : Int)) (kt : z ≤ 0 → pw_G g p l e R s m args below meth c nL Q cells slots tgt lv st w) (kf : 0 < z → pw_G g p l e R s m args below meth c nL Q cells slots (pc + 3) lv st w) : pw_G g p l e R s m args below meth c nL Q cells slots pc lv (.int (iZ z) :: st) w :=
  fun ls H locs hl hH hS => lv_if_le C.1 C.2.1 hd ht (fun h => kt ((iz_le hz ⟨by decide, by decide⟩).mp (by rw [iz_0]; exact h)) ls H locs hl hH hS) (fun h => kf (Int.not_le.mp (fun q => h (by rw [← iz_0]; exact (iz_le hz ⟨by decide, by decide⟩).mpr q))) ls H locs hl hH hS)
theorem pw_icmp_eq (C : pw_C g p s m args meth c cc nL own) {a b : Int} {off : Int} {tgt : Nat} (ha : inI a) (hb : inI b) (hd : decode cc pc = .ok (.if_icmp .eq off, 3)) (ht : (pc : Int) + off = (tgt : Int)) (kt : a = b → pw_G g p l e R s m args below meth c nL Q cells slots tgt lv st w) (kf : a ≠ b → pw_G g p l e R s m args below meth c nL Q cells slots (pc + 3) lv st w) : pw_G g p l e R s m args below meth c nL Q cells slots pc lv (.int (iZ b) :: .int (iZ a) :: st) w :=
  fun ls H locs hl hH hS => lv_icmp_eq C.1 C.2.1 hd ht (fun h => kt ((iz_eq ha hb).mp h) ls H locs hl hH hS) (fun h => kf (fun q => h ((iz_eq ha hb).mpr q)) ls H locs hl hH hS)
theorem pw_icmp_ne (C : pw_C g p s m args meth c cc nL own) {a b : Int} {off : Int} {tgt : Nat} (ha : inI a) (hb : inI b) (hd : decode cc pc = .ok (.if_icmp .ne off, 3)) (ht : (pc : Int) + off = (tgt : Int)) (kt : a ≠ b → pw_G g p l e R s m args below meth c nL Q cells slots tgt lv st w) (kf : a = b → pw_G g p l e R s m args below meth c nL Q cells slots (pc + 3) lv st w) : pw_G g p l e R s m args below meth c nL Q cells slots pc lv (.int (iZ b) :: .int (iZ a) :: st) w :=
  fun ls H locs hl hH hS => lv_icmp_ne C.1 C.2.1 hd ht (fun h => kt (fun q => h ((iz_eq ha hb).mpr q)) ls H locs hl hH hS) (fun h => kf ((iz_eq ha hb).mp h) ls H locs hl hH hS)
theorem pw_icmp_lt (C : pw_C g p s m args meth c cc nL own) {a b : Int} {off : Int} {tgt : Nat} (ha : inI a) (hb : inI b) (hd : decode cc pc = .ok (.if_icmp .lt off, 3)) (ht : (pc : Int) + off = (tgt : Int)) (kt : a < b → pw_G g p l e R s m args below meth c nL Q cells slots tgt lv st w) (kf : b ≤ a → pw_G g p l e R s m args below meth c nL Q cells slots (pc + 3) lv st w) : pw_G g p l e R s m args below meth c nL Q cells slots pc lv (.int (iZ b) :: .int (iZ a) :: st) w :=
  fun ls H locs hl hH hS => lv_icmp_lt C.1 C.2.1 hd ht (fun h => kt ((iz_lt ha hb).mp h) ls H locs hl hH hS) (fun h => kf (Int.not_lt.mp (fun q => h ((iz_lt ha hb).mpr q))) ls H locs hl hH hS)
theorem pw_icmp_ge (C : pw_C g p s m args meth c cc nL own) {a b : Int} {off : Int} {tgt : Nat} (ha : inI a) (hb : inI b) (hd : decode cc pc = .ok (.if_icmp .ge off, 3)) (ht : (pc : Int) + off = (tgt : Int)) (kt : b ≤ a → pw_G g p l e R s m args below meth c nL Q cells slots tgt lv st w) (kf : a < b → pw_G g p l e R s m args below meth c nL Q cells slots (pc + 3) lv st w) : pw_G g p l e R s m args below meth c nL Q cells slots pc lv (.int (iZ b) :: .int (iZ a) :: st) w :=
  fun ls H locs hl hH hS => lv_icmp_ge C.1 C.2.1 hd ht (fun h => kt ((iz_le hb ha).mp h) ls H locs hl hH hS) (fun h => kf (Int.not_le.mp (fun q => h ((iz_le hb ha).mpr q))) ls H locs hl hH hS)
theorem pw_icmp_gt (C : pw_C g p s m args meth c cc nL own) {a b : Int} {off : Int} {tgt : Nat} (ha : inI a) (hb : inI b) (hd : decode cc pc = .ok (.if_icmp .gt off, 3)) (ht : (pc : Int) + off = (tgt : Int)) (kt : b < a → pw_G g p l e R s m args below meth c nL Q cells slots tgt lv st w) (kf : a ≤ b → pw_G g p l e R s m args below meth c nL Q cells slots (pc + 3) lv st w) : pw_G g p l e R s m args below meth c nL Q cells slots pc lv (.int (iZ b) :: .int (iZ a) :: st) w :=
  fun ls H locs hl hH hS => lv_icmp_gt C.1 C.2.1 hd ht (fun h => kt ((iz_lt hb ha).mp h) ls H locs hl hH hS) (fun h => kf (Int.not_lt.mp (fun q => h ((iz_lt hb ha).mpr q))) ls H locs hl hH hS)
theorem pw_icmp_le (C : pw_C g p s m args meth c cc nL own) {a b : Int} {off : Int} {tgt : Nat} (ha : inI a) (hb : inI b) (hd : decode cc pc = .ok (.if_icmp .le off, 3)) (ht : (pc : Int) + off = (tgt : Int)) (kt : a ≤ b → pw_G g p l e R s m args below meth c nL Q cells slots tgt lv st w) (kf : b < a → pw_G g p l e R s m args below meth c nL Q cells slots (pc + 3) lv st w) : pw_G g p l e R s m args below meth c nL Q cells slots pc lv (.int (iZ b) :: .int (iZ a) :: st) w :=
  fun ls H locs hl hH hS => lv_icmp_le C.1 C.2.1 hd ht (fun h => kt ((iz_le ha hb).mp h) ls H locs hl hH hS) (fun h => kf (Int.not_le.mp (fun q => h ((iz_le ha hb).mpr q))) ls H locs hl hH hS)
theorem pw_if_eqB (C : pw_C g p s m args meth c cc nL own) {b : Bool} {off : Int} {tgt : Nat} (hd : decode cc pc = .ok (.ifCond .eq off, 3)) (ht : (pc : Int) + off = (tgt : Int)) (kt : b = false → pw_G g p l e R s m args below meth c nL Q cells slots tgt lv st w) (kf : b = true → pw_G g p l e R s m args below meth c nL Q cells slots (pc + 3) lv st w) : pw_G g p l e R s m args below meth c nL Q cells slots pc lv (.int (iZ (b2i b)) :: st) w :=
  pw_if_eq C (b2i_in b) hd ht (fun h => kt (by cases b <;> simp_all [b2i])) (fun h => kf (by cases b <;> simp_all [b2i]))
theorem pw_if_neB (C : pw_C g p s m args meth c cc nL own) {b : Bool} {off : Int} {tgt : Nat} (hd : decode cc pc = .ok (.ifCond .ne off, 3)) (ht : (pc : Int) + off = (tgt : Int)) (kt : b = true → pw_G g p l e R s m args below meth c nL Q cells slots tgt lv st w) (kf : b = false → pw_G g p l e R s m args below meth c nL Q cells slots (pc + 3) lv st w) : pw_G g p l e R s m args below meth c nL Q cells slots pc lv (.int (iZ (b2i b)) :: st) w :=
  pw_if_ne C (b2i_in b) hd ht (fun h => kt (by cases b <;> simp_all [b2i])) (fun h => kf (by cases b <;> simp_all [b2i]))
theorem pw_ifnull (C : pw_C g p s m args meth c cc nL own) {v : Option Nat} {off : Int} {tgt : Nat} (hd : decode cc pc = .ok (.ifnull off, 3)) (ht : (pc : Int) + off = (tgt : Int)) (kt : v = none → pw_G g p l e R s m args below meth c nL Q cells slots tgt lv st w) (kf : ∀ a, v = some a → pw_G g p l e R s m args below meth c nL Q cells slots (pc + 3) lv st w) : pw_G g p l e R s m args below meth c nL Q cells slots pc lv (va_rf v :: st) w := by
  intro ls H locs hl hH hS
  cases v with
  | none => exact lv_ifnullN C.1 C.2.1 hd ht (kt rfl ls H locs hl hH hS)
  | some a => exact lv_ifnull C.1 C.2.1 hd (kf a rfl ls H locs hl hH hS)
theorem pw_ifnonnull (C : pw_C g p s m args meth c cc nL own) {v : Option Nat} {off : Int} {tgt : Nat} (hd : decode cc pc = .ok (.ifnonnull off, 3)) (ht : (pc : Int) + off = (tgt : Int)) (kt : ∀ a, v = some a → pw_G g p l e R s m args below meth c nL Q cells slots tgt lv st w) (kf : v = none → pw_G g p l e R s m args below meth c nL Q cells slots (pc + 3) lv st w) : pw_G g p l e R s m args below meth c nL Q cells slots pc lv (va_rf v :: st) w := by
  intro ls H locs hl hH hS
  cases v with
  | none => exact lv_ifnonnullN C.1 C.2.1 hd (kf rfl ls H locs hl hH hS)
  | some a => exact lv_ifnonnull C.1 C.2.1 hd ht (kt a rfl ls H locs hl hH hS)
/-- fewer locals, more room, another stack or world that is the same -/
theorem pw_sub {lv' : List (Nat × Value)} (ks : List Nat) (h : lv_pick lv ks = lv') (k : pw_G g p l e R s m args below meth c nL Q cells slots pc lv' st w) : pw_G g p l e R s m args below meth c nL Q cells slots pc lv st w :=
  fun ls H locs hl hH hS => k ls H locs (lv_sub hl ks h) hH hS
theorem pw_wide (cells' slots' : Nat) (h1 : cells ≤ cells') (h2 : slots ≤ slots') (k : pw_G g p l e R s m args below meth c nL Q cells' slots' pc lv st w) : pw_G g p l e R s m args below meth c nL Q cells slots pc lv st w :=
  fun ls H locs hl hH hS => W.widen h1 h2 (k ls H locs hl hH hS)
/-! RETURNS -/
theorem pw_post {post : Option Value → pw_W → Prop} {r : Option Value} {H : Heap} {locs : List Loc} (hp : post r w) (hH : pw_H g w H) (hS : va_S (pw_A g) s.heap H locs) (t : State) (ht : t.heap = H) : pw_Qc g post args s (.returned r) t :=
  ⟨⟨r, w, rfl, hp, by rw [ht]; exact hH⟩, hS.F ht⟩
theorem pw_iret (C : pw_C g p s m args meth c cc nL own) {post : Option Value → pw_W → Prop} {x : Int32} (hr : meth.sig.returnType = some .int) (hd : decode cc pc = .ok (.ireturn, 1)) (hp : post (some (.int x)) w) : pw_G g p l e R s m args below meth c nL (MQ below (pw_Qc g post) args s cells slots (pw_A g)) cells slots pc lv [.int x] w :=
  fun ls H locs hl hH hS => W.iret (v := x) C.1 C.2.1 hr (fun t ht hW => pw_post hp hH hS t ht) hS.2.2 hd (hlocks := C.2.2.2.2.2.1)
theorem pw_zret (C : pw_C g p s m args meth c cc nL own) {post : Option Value → pw_W → Prop} {x : Int32} {ty : FieldType} (hr : meth.sig.returnType = some ty) (hn : narrow ty (.int x) = .int x) (hd : decode cc pc = .ok (.ireturn, 1)) (hp : post (some (.int x)) w) : pw_G g p l e R s m args below meth c nL (MQ below (pw_Qc g post) args s cells slots (pw_A g)) cells slots pc lv [.int x] w :=
  fun ls H locs hl hH hS => W.zret (v := x) C.1 C.2.1 hr hn (fun t ht hW => pw_post hp hH hS t ht) hS.2.2 hd (hlocks := C.2.2.2.2.2.1)
theorem pw_lret (C : pw_C g p s m args meth c cc nL own) {post : Option Value → pw_W → Prop} {x : Int64} (hr : meth.sig.returnType = some .long) (hd : decode cc pc = .ok (.lreturn, 1)) (hp : post (some (.long x)) w) : pw_G g p l e R s m args below meth c nL (MQ below (pw_Qc g post) args s cells slots (pw_A g)) cells slots pc lv [.long x] w :=
  fun ls H locs hl hH hS => W.lret (v := x) C.1 C.2.1 hr (fun t ht hW => pw_post hp hH hS t ht) hS.2.2 hd (hlocks := C.2.2.2.2.2.1)
theorem pw_vret (C : pw_C g p s m args meth c cc nL own) {post : Option Value → pw_W → Prop} (hr : meth.sig.returnType = none) (hd : decode cc pc = .ok (.return_, 1)) (hp : post none w) : pw_G g p l e R s m args below meth c nL (MQ below (pw_Qc g post) args s cells slots (pw_A g)) cells slots pc lv [] w :=
  fun ls H locs hl hH hS => W.vret C.1 C.2.1 hr (fun t ht hW => pw_post hp hH hS t ht) hS.2.2 hd (hlocks := C.2.2.2.2.2.1)
theorem pw_aret (C : pw_C g p s m args meth c cc nL own) {post : Option Value → pw_W → Prop} {v : Value} {rt : FieldType} (hr : meth.sig.returnType = some rt) (hrt : (∃ n, rt = .object n) ∨ ∃ t, rt = .array t) (hv : v = .null ∨ ∃ a, v = .ref a) (hd : decode cc pc = .ok (.areturn, 1)) (hp : post (some v) w) : pw_G g p l e R s m args below meth c nL (MQ below (pw_Qc g post) args s cells slots (pw_A g)) cells slots pc lv [v] w :=
  fun ls H locs hl hH hS => W.aret (v := v) C.1 C.2.1 hr hrt hv (fun t ht hW => pw_post hp hH hS t ht) hS.2.2 hd (hlocks := C.2.2.2.2.2.1)
end
