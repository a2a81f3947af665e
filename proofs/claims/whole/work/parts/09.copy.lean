/-! COPIES: the first places of one array into another -/
def cpyZ (f f1 : Int → Int) (n : Int) : Int → Int := fun j => if 0 ≤ j ∧ j < n then f j else f1 j
theorem cpyZ_of {α : Type} (h : Int → α) (f f1 : Int → Int) {n : Int} (hn : 0 ≤ n) : va_cpy (fun (j : Nat) => h (f (j : Int))) (fun (j : Nat) => h (f1 (j : Int))) 0 0 n.toNat = fun (j : Nat) => h (cpyZ f f1 n (j : Int)) := by
  funext j
  unfold va_cpy cpyZ
  by_cases hj : (j : Int) < n
  · rw [if_pos (by omega), if_pos (by omega)]
    congr 2
    omega
  · rw [if_neg (by omega), if_neg (by omega)]
section
variable {g : pw_P} {p : Program} {l : Launch} {e : Env} {R : Room} {s : State} {m : MethodId} {args : Array Value} {below : List Frame} {meth : Method} {c : Code} {cc : ByteArray} {nL : Nat} {own : String} {Q : State → Prop} {cells slots pc : Nat} {lv : List (Nat × Value)} {st : List Value} {w : pw_W}
/-- the copy, of values of one kind -/
theorem pw_copyV (C : pw_C g p s m args meth c cc nL own) {t : Nat} {ty : FieldType} (mk : Int → Value) {k d a0 a n0 n1 : Nat} {f f1 : Int → Int} {e0 e1 : va_E} {cnt : Int} {idx : Nat} (ht : (pw_tys g.2.1)[t]? = some (g.2.1 t, ty)) (hprim : refKind ty = false) (hfit : ∀ z, fits ty (mk z) = true) (htk : ∀ (z : Int) (U : State) (cm : ClassId), U.takes cm (mk z))
    (hk : w k = (a0, some e0)) (hd0 : w d = (a, some e1)) (he0 : ∀ H : Heap, va_at g.1 vwCl (a0, e0) H = (H[a0]? = some (arrV (g.2.1 t) n0 (fun (j : Nat) => mk (f (j : Int)))))) (he1 : ∀ H : Heap, va_at g.1 vwCl (a, e1) H = (H[a]? = some (arrV (g.2.1 t) n1 (fun (j : Nat) => mk (f1 (j : Int))))))
    {e2 : va_E} (he2 : ∀ H : Heap, va_at g.1 vwCl (a, e2) H = (H[a]? = some (arrV (g.2.1 t) n1 (fun (j : Nat) => mk (cpyZ f f1 cnt (j : Int))))))
    (hc : 0 ≤ cnt ∧ cnt ≤ n0 ∧ cnt ≤ n1 ∧ cnt < 2147483648) (h1 : Cond.methodLink own idx arraycopyName ∈ pw_T) (h2 : Cond.native arraycopyName ∈ pw_T) (h3 : Cond.static arraycopyName ∈ pw_T) (h4 : Cond.initialized "java/lang/System" ∈ pw_T) (hfr : 1 ≤ R.frames) (hlo : (st.map fun v => v.category).sum + (nativeFrameWords "java/lang/System" "arraycopy" 5 + 11) ≤ R.locals) (hd : decode cc pc = .ok (.invokestatic idx, 3))
    (kk : ∀ w' : pw_W, w' d = (a, some e2) → (∀ i, i ≠ d → w' i = w i) → pw_G g p l e R s m args below meth c nL Q cells slots (pc + 3) lv st w') : pw_G g p l e R s m args below meth c nL Q cells slots pc lv (.int (iZ cnt) :: .int (iZ 0) :: .ref a :: .int (iZ 0) :: .ref a0 :: st) w := by
  intro ls H locs hl hH hS T hT X
  have hc0 := (hH.1 k a0 _ hk).1
  rw [he0] at hc0
  have hc1 := (hH.1 d a _ hd0).1
  rw [he1] at hc1
  have hin : inI cnt := ⟨by omega, hc.2.2.2⟩
  have z0 : (iZ 0).toNatClampNeg = 0 := by decide
  have zc : (iZ cnt).toNatClampNeg = cnt.toNat := iz_clamp hin
  have i0 : (iZ 0).toInt = 0 := by decide
  have ic : (iZ cnt).toInt = cnt := iz_toInt hin
  obtain ⟨-, k0, hk0, cm0, hkk0⟩ := (C.2.2.2.2.2.2.2.1.2 t _ ht).1 n0 (fun (j : Nat) => mk (f (j : Int)))
  obtain ⟨-, k1, hk1, cm1, hkk1⟩ := (C.2.2.2.2.2.2.2.1.2 t _ ht).1 n1 (fun (j : Nat) => mk (f1 (j : Int)))
  have nl0 : ¬ iZ 0 < 0 := by decide
  have nlc : ¬ iZ cnt < 0 := fun q => by
    rw [← iz_0] at q
    have := (iz_lt hin (b := 0) ⟨by decide, by decide⟩).mp q
    omega
  have rd : ∀ i : Nat, i < cnt.toNat → (arrV (g.2.1 t) n0 (fun (j : Nat) => mk (f (j : Int)))).slots.getD ((iZ 0).toNatClampNeg + i) .null = mk (f (i : Int)) := by
    intro i hi
    rw [z0, Array.getD_eq_getD_getElem?, arrV_read _ _ (by omega), Nat.zero_add]
    rfl
  obtain ⟨vm', X', step⟩ := X.arraycopy C.1 C.2.2.2.1 (C.2.2.2.2.1 _ h1) (C.2.2.2.2.1 _ h2) (C.2.2.2.2.1 _ h3) (C.2.2.2.2.1 _ h4) (src := a0) (dst := a) (srcPos := iZ 0) (destPos := iZ 0) (n := iZ cnt) (by rw [hT]; exact hc0) (by rw [hT]; exact hc1)
    (fun _ h => by cases h) (fun _ h => by cases h) (fun h => by cases h) (fun h => by cases h) hk0 hk1 hkk0 hkk1 (by simp [hprim]) nl0 nl0 nlc
    (by rw [i0, ic, arrV_size]; omega) (by rw [i0, ic, arrV_size]; omega)
    (fun vm₁ _ i hi => by
      rw [zc] at hi
      rw [rd i hi]
      exact ⟨hfit _, htk _ _ _⟩)
    (g := F0 m pc ls (.int (iZ cnt) :: .int (iZ 0) :: .ref a :: .int (iZ 0) :: .ref a0 :: st)) rfl (by rw [C.2.2.1]; exact hl.1) (rest := st) rfl (by rw [C.2.1]; exact hd) hfr (by show 2 * 0 + _ + _ ≤ _; omega)
  have ecp : copied (arrV (g.2.1 t) n0 (fun (j : Nat) => mk (f (j : Int)))) (arrV (g.2.1 t) n1 (fun (j : Nat) => mk (f1 (j : Int)))) (iZ 0) (iZ 0) (iZ cnt) = arrV (g.2.1 t) n1 (fun (j : Nat) => mk (cpyZ f f1 cnt (j : Int))) := by
    have h := va_copied (sp := (iZ 0).toNatClampNeg) (dp := (iZ 0).toNatClampNeg) (n := (iZ cnt).toNatClampNeg) mk (g.2.1 t) (g.2.1 t) (n0 := n0) (n1 := n1) (fun (j : Nat) => f (j : Int)) (fun (j : Nat) => f1 (j : Int)) (by rw [z0, zc]; omega)
    refine Eq.trans h ?_
    rw [z0, zc]
    congr 1
    have h5 := cpyZ_of (fun z => z) f f1 hc.1
    funext j
    exact congrArg mk (congrFun h5 j)
  rw [ecp] at X' step
  have hlt : a < H.size := (Array.getElem?_eq_some_iff.mp hc1).1
  refine (kk _ (va_up_self _ _ _) (fun i hi => va_up_ne _ _ hi) ls _ _ hl (hH.put hd0 (e := e2) ?_ ?_) ?_ _ (by rfl) X').elim fun t2 h => ⟨t2, step t2 h.1, h.2⟩
  · rw [he2]
    show (T.heap.setIfInBounds a _)[a]? = _
    rw [hT]
    simp [Array.getElem?_setIfInBounds, hlt]
  · intro q hq
    show (T.heap.setIfInBounds a _)[q]? = _
    rw [hT]
    simp [Array.getElem?_setIfInBounds, Ne.symm hq]
  · refine ⟨?_, fun q h1 h2 => ?_, fun q hq => ?_⟩
    · show _ ≤ (T.heap.setIfInBounds a _).size
      rw [hT]
      simpa using hS.1
    · show (T.heap.setIfInBounds a _)[q]? = _
      rw [hT]
      have hqa : q ≠ a := fun e => h2 (by rw [e]; exact (hH.1 d a _ hd0).2)
      simp only [Array.getElem?_setIfInBounds, Ne.symm hqa, if_false]
      exact hS.2.1 q h1 h2
    · rcases List.mem_append.mp hq with h | h
      · exact hS.2.2 q h
      · obtain ⟨z, -, hz⟩ := List.mem_map.mp h
        rw [← hz]
        exact (hH.1 d a _ hd0).2
end

theorem pw_copyI {g : pw_P} {p : Program} {l : Launch} {e : Env} {R : Room} {s : State} {m : MethodId} {args : Array Value} {below : List Frame} {meth : Method} {c : Code} {cc : ByteArray} {nL : Nat} {own : String} {Q : State → Prop} {cells slots pc : Nat} {lv : List (Nat × Value)} {st : List Value} {w : pw_W} (C : pw_C g p s m args meth c cc nL own) {k d a0 a n0 n1 idx : Nat} {f f1 : Int → Int} {cnt : Int} (hk : w k = (a0, some (AI g n0 f))) (hd0 : w d = (a, some (AI g n1 f1))) (hc : 0 ≤ cnt ∧ cnt ≤ n0 ∧ cnt ≤ n1 ∧ cnt < 2147483648) (h1 : Cond.methodLink own idx arraycopyName ∈ pw_T) (h2 : Cond.native arraycopyName ∈ pw_T) (h3 : Cond.static arraycopyName ∈ pw_T) (h4 : Cond.initialized "java/lang/System" ∈ pw_T) (hfr : 1 ≤ R.frames) (hlo : (st.map fun v => v.category).sum + (nativeFrameWords "java/lang/System" "arraycopy" 5 + 11) ≤ R.locals) (hd : decode cc pc = .ok (.invokestatic idx, 3))
    (kk : ∀ w' : pw_W, w' d = (a, some (AI g n1 (cpyZ f f1 cnt))) → (∀ i, i ≠ d → w' i = w i) → pw_G g p l e R s m args below meth c nL Q cells slots (pc + 3) lv st w') : pw_G g p l e R s m args below meth c nL Q cells slots pc lv (.int (iZ cnt) :: .int (iZ 0) :: .ref a :: .int (iZ 0) :: .ref a0 :: st) w :=
  pw_copyV C (t := 0) (ty := .int) (fun z => .int (iZ z)) rfl rfl (fun _ => rfl) (fun _ _ _ => trivial) hk hd0 (fun H => at_AI g a0 n0 f H) (fun H => at_AI g a n1 f1 H) (e2 := AI g n1 (cpyZ f f1 cnt)) (fun H => at_AI g a n1 _ H) hc h1 h2 h3 h4 hfr hlo hd kk
theorem pw_copyJ {g : pw_P} {p : Program} {l : Launch} {e : Env} {R : Room} {s : State} {m : MethodId} {args : Array Value} {below : List Frame} {meth : Method} {c : Code} {cc : ByteArray} {nL : Nat} {own : String} {Q : State → Prop} {cells slots pc : Nat} {lv : List (Nat × Value)} {st : List Value} {w : pw_W} (C : pw_C g p s m args meth c cc nL own) {k d a0 a n0 n1 idx : Nat} {f f1 : Int → Int} {cnt : Int} (hk : w k = (a0, some (AJ g n0 f))) (hd0 : w d = (a, some (AJ g n1 f1))) (hc : 0 ≤ cnt ∧ cnt ≤ n0 ∧ cnt ≤ n1 ∧ cnt < 2147483648) (h1 : Cond.methodLink own idx arraycopyName ∈ pw_T) (h2 : Cond.native arraycopyName ∈ pw_T) (h3 : Cond.static arraycopyName ∈ pw_T) (h4 : Cond.initialized "java/lang/System" ∈ pw_T) (hfr : 1 ≤ R.frames) (hlo : (st.map fun v => v.category).sum + (nativeFrameWords "java/lang/System" "arraycopy" 5 + 11) ≤ R.locals) (hd : decode cc pc = .ok (.invokestatic idx, 3))
    (kk : ∀ w' : pw_W, w' d = (a, some (AJ g n1 (cpyZ f f1 cnt))) → (∀ i, i ≠ d → w' i = w i) → pw_G g p l e R s m args below meth c nL Q cells slots (pc + 3) lv st w') : pw_G g p l e R s m args below meth c nL Q cells slots pc lv (.int (iZ cnt) :: .int (iZ 0) :: .ref a :: .int (iZ 0) :: .ref a0 :: st) w :=
  pw_copyV C (t := 1) (ty := .long) (fun z => .long (lZ z)) rfl rfl (fun _ => rfl) (fun _ _ _ => trivial) hk hd0 (fun H => at_AJ g a0 n0 f H) (fun H => at_AJ g a n1 f1 H) (e2 := AJ g n1 (cpyZ f f1 cnt)) (fun H => at_AJ g a n1 _ H) hc h1 h2 h3 h4 hfr hlo hd kk
theorem new_AI (g : pw_P) (N : Nat) (H1 : Heap) (h : H1[H1.size - 1]? = some (arrV (g.2.1 0) N (fun _ => defaultValue .int))) : va_at g.1 vwCl (H1.size - 1, AI g N (fun _ => 0)) H1 := by
  rw [at_AI, h, iz_0]; rfl
theorem new_AJ (g : pw_P) (N : Nat) (H1 : Heap) (h : H1[H1.size - 1]? = some (arrV (g.2.1 1) N (fun _ => defaultValue .long))) : va_at g.1 vwCl (H1.size - 1, AJ g N (fun _ => 0)) H1 := by
  rw [at_AJ, h, lz_0]; rfl
theorem new_AC (g : pw_P) (N : Nat) (H1 : Heap) (h : H1[H1.size - 1]? = some (arrV (g.2.1 2) N (fun _ => defaultValue .char))) : va_at g.1 vwCl (H1.size - 1, AC g N (fun _ => 0)) H1 := by
  rw [at_AC, h, iz_0]; rfl
theorem new_AZ (g : pw_P) (N : Nat) (H1 : Heap) (h : H1[H1.size - 1]? = some (arrV (g.2.1 3) N (fun _ => defaultValue .boolean))) : va_at g.1 vwCl (H1.size - 1, AZ g N (fun _ => 0)) H1 := by
  rw [at_AZ, h, iz_0]; rfl
theorem upz_fill {f : Int → Int} {i v : Int} (h : ∀ j : Int, 0 ≤ j → j < i → f j = v) : ∀ j : Int, 0 ≤ j → j < i + 1 → upz f i v j = v := by
  intro j h1 h2
  by_cases hj : j = i
  · rw [hj, upz_self]
  · rw [upz_ne _ _ hj]
    exact h j h1 (by omega)
theorem sy_n : Cond.native arraycopyName ∈ pw_T := pw_in (pt_2 (List.mem_of_getElem? (i := 204) (by rfl))) (by rfl)
theorem sy_s : Cond.static arraycopyName ∈ pw_T := pw_in (pt_2 (List.mem_of_getElem? (i := 203) (by rfl))) (by rfl)
theorem sy_i : Cond.initialized "java/lang/System" ∈ pw_T := pw_in (pt_1 (List.mem_of_getElem? (i := 17) (by rfl))) (by rfl)

set_option maxRecDepth 100000 in
set_option maxHeartbeats 4000000 in
/-- Arrays.fill -/
theorem m_J7_fill_53178 (g : pw_P) (l : Launch) {w : pw_W} {k a n : Nat} {f : Int → Int} {v : Int} (hw : w k = (a, some (AI g n f))) (hn2 : n < 1000000) (hv : inI v) : pw_M g l yJ7_fill_53178 cJ7_fill_53178 4 none { frames := 0, cells := 0, slots := 0, locals := 0 } [.ref a, .int (iZ v)] w (fun r w' => r = none ∧ ∃ f', w' k = (a, some (AI g n f')) ∧ (∀ j : Int, 0 ≤ j → j < n → f' j = v) ∧ (∀ j : Int, ¬ (0 ≤ j ∧ j < n) → f' j = f j) ∧ ∀ i, i ≠ k → w' i = w i) := by
  refine pw_M.of (by decide) (Nat.le_of_ble_eq_true rfl) rfl ?_
  intro p e s m args below meth c C hr hn
  have loop : ∀ (fu : Nat) (i : Int) (w1 : pw_W) (f1 : Int → Int), 0 ≤ i → i + fu = n → w1 k = (a, some (AI g n f1)) → (∀ j : Int, 0 ≤ j → j < i → f1 j = v) → (∀ j : Int, ¬ (0 ≤ j ∧ j < i) → f1 j = f j) → (∀ j, j ≠ k → w1 j = w j) → pw_G g p l e { frames := 0, cells := 0, slots := 0, locals := 0 } s m args below meth c 4 (pw_Q g below (fun r w' => r = none ∧ ∃ f', w' k = (a, some (AI g n f')) ∧ (∀ j : Int, 0 ≤ j → j < n → f' j = v) ∧ (∀ j : Int, ¬ (0 ≤ j ∧ j < n) → f' j = f j) ∧ ∀ i, i ≠ k → w' i = w i) args s { frames := 0, cells := 0, slots := 0, locals := 0 }) 0 0 5 [(0, .ref a), (1, .int (iZ v)), (2, .int (iZ i)), (3, .int (iZ ((n : Nat) : Int)))] [] w1 := by
    intro fu
    induction fu with
    | zero =>
      intro i w1 f1 hi hn' hw ha hb hf
      refine pw_iload_n (i := 2) C dJ7_fill_53178_5 rfl rfl ?_
      refine pw_iload_n (i := 3) C dJ7_fill_53178_6 rfl rfl ?_
      refine pw_icmp_ge (tgt := 20) C (by omega) (by omega) dJ7_fill_53178_7 (by decide) (fun h_1 => ?_) (fun h_1 => ?_)
      · exact pw_vret C hr dJ7_fill_53178_20 ⟨rfl, f1, hw, fun j h1 h2 => ha j h1 (by omega), fun j hj => hb j (by omega), hf⟩
      · exfalso; omega
    | succ fu ih =>
      intro i w1 f1 hi hn' hw ha hb hf
      refine pw_iload_n (i := 2) C dJ7_fill_53178_5 rfl rfl ?_
      refine pw_iload_n (i := 3) C dJ7_fill_53178_6 rfl rfl ?_
      refine pw_icmp_ge (tgt := 20) C (by omega) (by omega) dJ7_fill_53178_7 (by decide) (fun h_101 => ?_) (fun h_101 => ?_)
      · exfalso; omega
      · refine pw_aload_n (i := 0) C dJ7_fill_53178_10 rfl rfl (Or.inr ⟨_, rfl⟩) ?_
        refine pw_iload_n (i := 2) C dJ7_fill_53178_11 rfl rfl ?_
        refine pw_iload_n (i := 1) C dJ7_fill_53178_12 rfl rfl ?_
        refine pw_iast C hw ⟨by omega, by omega, by omega⟩ dJ7_fill_53178_13 (fun w_104 k_102 o_103 => ?_)
        refine pw_iinc (lv' := [(0, .ref a), (1, .int (iZ v)), (2, .int (iZ (i + 1))), (3, .int (iZ ((n : Nat) : Int)))]) C dJ7_fill_53178_14 rfl (by decide) rfl ?_
        refine pw_goto (tgt := 5) C dJ7_fill_53178_17 (by decide) ?_
        exact ih (i + 1) w_104 _ (by omega) (by omega) k_102 (upz_fill ha) (fun j hj => by rw [upz_ne _ _ (by omega)]; exact hb j (by omega)) (fun j hj => (o_103 j hj).trans (hf j hj))
  refine pw_iconst C dJ7_fill_53178_0 ?_
  refine pw_istore_n (i := 2) (lv' := [(0, .ref a), (1, .int (iZ v)), (2, .int (iZ 0))]) C dJ7_fill_53178_1 rfl (by decide) rfl ?_
  refine pw_aload_n (i := 0) C dJ7_fill_53178_2 rfl rfl (Or.inr ⟨_, rfl⟩) ?_
  refine pw_alen (t := 0) C hw rfl dJ7_fill_53178_3 ?_
  refine pw_istore_n (i := 3) (lv' := [(0, .ref a), (1, .int (iZ v)), (2, .int (iZ 0)), (3, .int (iZ ((n : Nat) : Int)))]) C dJ7_fill_53178_4 rfl (by decide) rfl ?_
  exact loop n 0 w f (by omega) (by omega) hw (fun j h1 h2 => by omega) (fun j _ => rfl) (fun _ _ => rfl)

set_option maxRecDepth 100000 in
set_option maxHeartbeats 4000000 in
/-- Arrays.copyOf -/
theorem m_J7_copyOf_59c91 (g : pw_P) (l : Launch) {w : pw_W} {k d a n N : Nat} {f : Int → Int} {x : Int} (hw : w k = (a, some (AI g n f))) (hkd : k ≠ d) (hN : x = (N : Int)) (hn : n < N) (hN2 : N ≤ 16384) : pw_M g l yJ7_copyOf_59c91 cJ7_copyOf_59c91 3 (some (.array .int)) { frames := 1, cells := 1, slots := N, locals := 40 } [.ref a, .int (iZ x)] w (fun r w' => ∃ a', r = some (.ref a') ∧ w' d = (a', some (AI g N (cpyZ f (fun _ => 0) n))) ∧ ∀ i, i ≠ d → w' i = w i) := by
  refine pw_M.of (by decide) (Nat.le_of_ble_eq_true rfl) rfl ?_
  intro p e s m args below meth c C hr hn
  refine pw_iload_n (i := 1) C dJ7_copyOf_59c91_0 rfl rfl ?_
  refine pw_aload_n (i := 0) C dJ7_copyOf_59c91_1 rfl rfl (Or.inr ⟨_, rfl⟩) ?_
  refine pw_alen (t := 0) C hw rfl dJ7_copyOf_59c91_2 ?_
  refine pw_icmp_ne (tgt := 14) C (by omega) (by omega) dJ7_copyOf_59c91_3 (by decide) (fun h_1 => ?_) (fun h_1 => ?_)
  · refine pw_iload_n (i := 1) C dJ7_copyOf_59c91_14 rfl rfl ?_
    refine pw_newA d 0 (atype := .int) (N := N) C ar_int rfl (new_AI g N) hN (by omega) (by show N * 4 ≤ _; omega) (Nat.le_refl 1) (by show 0 + N ≤ N; omega) dJ7_copyOf_59c91_15 (fun a1 w1 hk1 ho1 => ?_)
    have hk0 := (ho1 k hkd).trans hw
    refine pw_astore_n (i := 2) (lv' := [(0, .ref a), (1, .int (iZ x)), (2, .ref a1)]) C dJ7_copyOf_59c91_17 rfl (by decide) (Or.inr ⟨_, rfl⟩) rfl ?_
    refine pw_aload_n (i := 0) C dJ7_copyOf_59c91_18 rfl rfl (Or.inr ⟨_, rfl⟩) ?_
    refine pw_iconst C dJ7_copyOf_59c91_19 ?_
    refine pw_aload_n (i := 2) C dJ7_copyOf_59c91_20 rfl rfl (Or.inr ⟨_, rfl⟩) ?_
    refine pw_iconst C dJ7_copyOf_59c91_21 ?_
    refine pw_aload_n (i := 0) C dJ7_copyOf_59c91_22 rfl rfl (Or.inr ⟨_, rfl⟩) ?_
    refine pw_alen (t := 0) C hk0 rfl dJ7_copyOf_59c91_23 ?_
    refine pw_iload_n (i := 1) C dJ7_copyOf_59c91_24 rfl rfl ?_
    refine pw_min C (x := ((n : Nat) : Int)) (z := x) (by omega) (by omega) ml_J7_304 ma_min_s ma_i ma_min_c (Nat.le_refl 1) (Nat.le_of_ble_eq_true rfl) ⟨by show 0 + 1 ≤ 1; omega, by show 0 + N ≤ N; omega⟩ dJ7_copyOf_59c91_25 ?_
    rw [if_neg (by omega)]
    refine pw_copyI C hk0 hk1 ⟨by omega, by omega, by omega, by omega⟩ ml_J7_150 sy_n sy_s sy_i (Nat.le_refl 1) (Nat.le_of_ble_eq_true rfl) dJ7_copyOf_59c91_28 (fun w2 hk2 ho2 => ?_)
    refine pw_aload_n (i := 2) C dJ7_copyOf_59c91_31 rfl rfl (Or.inr ⟨_, rfl⟩) ?_
    refine pw_wide 1 N (by decide) (by omega) ?_
    exact pw_aret C hr (Or.inr ⟨_, rfl⟩) (Or.inr ⟨_, rfl⟩) dJ7_copyOf_59c91_32 ⟨_, rfl, hk2, fun i hi => (ho2 i hi).trans (ho1 i hi)⟩
  · exfalso; omega

set_option maxRecDepth 100000 in
set_option maxHeartbeats 4000000 in
/-- Arrays.copyOf -/
theorem m_J7_copyOf_c38d5 (g : pw_P) (l : Launch) {w : pw_W} {k d a n N : Nat} {f : Int → Int} {x : Int} (hw : w k = (a, some (AJ g n f))) (hkd : k ≠ d) (hN : x = (N : Int)) (hn : n < N) (hN2 : N ≤ 16384) : pw_M g l yJ7_copyOf_c38d5 cJ7_copyOf_c38d5 3 (some (.array .long)) { frames := 1, cells := 1, slots := N, locals := 40 } [.ref a, .int (iZ x)] w (fun r w' => ∃ a', r = some (.ref a') ∧ w' d = (a', some (AJ g N (cpyZ f (fun _ => 0) n))) ∧ ∀ i, i ≠ d → w' i = w i) := by
  refine pw_M.of (by decide) (Nat.le_of_ble_eq_true rfl) rfl ?_
  intro p e s m args below meth c C hr hn
  refine pw_iload_n (i := 1) C dJ7_copyOf_c38d5_0 rfl rfl ?_
  refine pw_aload_n (i := 0) C dJ7_copyOf_c38d5_1 rfl rfl (Or.inr ⟨_, rfl⟩) ?_
  refine pw_alen (t := 1) C hw rfl dJ7_copyOf_c38d5_2 ?_
  refine pw_icmp_ne (tgt := 14) C (by omega) (by omega) dJ7_copyOf_c38d5_3 (by decide) (fun h_1 => ?_) (fun h_1 => ?_)
  · refine pw_iload_n (i := 1) C dJ7_copyOf_c38d5_14 rfl rfl ?_
    refine pw_newA d 1 (atype := .long) (N := N) C ar_long rfl (new_AJ g N) hN (by omega) (by show N * 8 ≤ _; omega) (Nat.le_refl 1) (by show 0 + N ≤ N; omega) dJ7_copyOf_c38d5_15 (fun a1 w1 hk1 ho1 => ?_)
    have hk0 := (ho1 k hkd).trans hw
    refine pw_astore_n (i := 2) (lv' := [(0, .ref a), (1, .int (iZ x)), (2, .ref a1)]) C dJ7_copyOf_c38d5_17 rfl (by decide) (Or.inr ⟨_, rfl⟩) rfl ?_
    refine pw_aload_n (i := 0) C dJ7_copyOf_c38d5_18 rfl rfl (Or.inr ⟨_, rfl⟩) ?_
    refine pw_iconst C dJ7_copyOf_c38d5_19 ?_
    refine pw_aload_n (i := 2) C dJ7_copyOf_c38d5_20 rfl rfl (Or.inr ⟨_, rfl⟩) ?_
    refine pw_iconst C dJ7_copyOf_c38d5_21 ?_
    refine pw_aload_n (i := 0) C dJ7_copyOf_c38d5_22 rfl rfl (Or.inr ⟨_, rfl⟩) ?_
    refine pw_alen (t := 1) C hk0 rfl dJ7_copyOf_c38d5_23 ?_
    refine pw_iload_n (i := 1) C dJ7_copyOf_c38d5_24 rfl rfl ?_
    refine pw_min C (x := ((n : Nat) : Int)) (z := x) (by omega) (by omega) ml_J7_304 ma_min_s ma_i ma_min_c (Nat.le_refl 1) (Nat.le_of_ble_eq_true rfl) ⟨by show 0 + 1 ≤ 1; omega, by show 0 + N ≤ N; omega⟩ dJ7_copyOf_c38d5_25 ?_
    rw [if_neg (by omega)]
    refine pw_copyJ C hk0 hk1 ⟨by omega, by omega, by omega, by omega⟩ ml_J7_150 sy_n sy_s sy_i (Nat.le_refl 1) (Nat.le_of_ble_eq_true rfl) dJ7_copyOf_c38d5_28 (fun w2 hk2 ho2 => ?_)
    refine pw_aload_n (i := 2) C dJ7_copyOf_c38d5_31 rfl rfl (Or.inr ⟨_, rfl⟩) ?_
    refine pw_wide 1 N (by decide) (by omega) ?_
    exact pw_aret C hr (Or.inr ⟨_, rfl⟩) (Or.inr ⟨_, rfl⟩) dJ7_copyOf_c38d5_32 ⟨_, rfl, hk2, fun i hi => (ho2 i hi).trans (ho1 i hi)⟩
  · exfalso; omega

