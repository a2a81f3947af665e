/-! CALLS -/
section
variable {g : pw_P} {p : Program} {l : Launch} {e : Env} {R : Room} {s : State} {m : MethodId} {args : Array Value} {below : List Frame} {meth : Method} {c : Code} {cc : ByteArray} {nL : Nat} {own : String} {Q : State → Prop} {cells slots pc : Nat} {lv : List (Nat × Value)} {st : List Value} {w : pw_W}
variable {y : MethodName} {cc' : ByteArray} {nL' n idx a : Nat} {ret' : Option FieldType} {rm' : Room} {As stk : List Value} {post : Option Value → pw_W → Prop} {host : String}
/-- an object of a class of ours -/
def pw_rec (g : pw_P) (s : State) (w : pw_W) (a : Nat) (cn : String) : Prop := ∀ (H : Heap) (locs : List Loc), pw_H g w H → va_S (pw_A g) s.heap H locs → ∃ cell : Cell, H[a]? = some cell ∧ cell.vm.isStatics = false ∧ s.vm.findClass cn = some cell.cls
theorem pw_rec.of (C : pw_C g p s m args meth c cc nL own) {k ci : Nat} {q : vw_C} {fs : List Value} (hk : w k = (a, some (OB ci fs))) (hc : vwCl[ci]? = some q) : pw_rec g s w a q.1 :=
  fun H locs hH hS => va_recv C.2.2.2.2.2.2.2.1 (hH.one hk) hc (q0 := 0) rfl
theorem pw_rec.str (C : pw_C g p s m args meth c cc nL own) {i : Nat} (hi : i < 2) : pw_rec g s w (g.2.2.2 i) "java/lang/String" :=
  fun H locs hH hS => vk_recv C.2.2.2.2.2.2.2.2.2.1 hi hS
theorem pw_pre (C : pw_C g p s m args meth c cc nL own) {H : Heap} {locs : List Loc} (hH : pw_H g w H) (hS : va_S (pw_A g) s.heap H locs) (av : List Value) (U : State) (hU : U.heap = H) (hW : s.WarmedH U.vm) : pw_Pc g av w av.toArray U := by
  refine ⟨rfl, ?_, by rw [hU]; exact hH, va_K.moved hW.alike C.2.2.2.2.2.2.2.1, ?_⟩
  · rw [hU]; exact Nat.le_trans C.2.2.2.2.2.2.1 hS.1
  · rw [hU]; exact C.2.2.2.2.2.2.2.2.go hW hS
theorem pw_cont {H : Heap} {locs : List Loc} {ls : Array Slot} {av : Array Value} {mc ms : Nat} (hr : va_Run p l e R s m args below meth c H locs cells slots mc ms (F0 m pc ls stk) st (pw_Qc g post av) (pw_A g)) (hS : va_S (pw_A g) s.heap H locs)
    (kk : ∀ (r : Option Value) (w' : pw_W) (H1 : Heap) (locs1 : List Loc), post r w' → pw_H g w' H1 → va_S (pw_A g) s.heap H1 locs1 → W p l e R s m args below meth c H1 locs1 (cells + mc) (slots + ms) Q (F0 m (pc + 3) ls (r.toList ++ st))) : W p l e R s m args below meth c H locs cells slots Q (F0 m pc ls stk) := by
  intro T hT X
  obtain ⟨v, st₀, t, T', L, h0, X', hL, e1, e2, ⟨⟨r, w', hv, hp, hH⟩, hz, hk⟩, st'⟩ := hr T hT X
  cases hv
  rw [h0] at hz hk
  obtain ⟨t2, a1, b1⟩ := kk _ w' T'.heap (locs ++ L) hp (by rw [e1]; exact hH)
    ⟨Nat.le_trans hS.1 (by rw [e1]; exact hz), fun q h1 h2 => by rw [e1, hk q (Nat.lt_of_lt_of_le h1 hS.1) h2]; exact hS.2.1 q h1 h2, fun q hq => by
      rcases List.mem_append.mp hq with h | h
      · exact hS.2.2 q h
      · exact hL q h⟩ T' rfl X'
  exact ⟨t2, st' t2 a1, b1⟩
theorem pw_cb (C : pw_C g p s m args meth c cc nL own) (hY : pw_Y0 y cc' nL' ret' n) (hlink : Cond.methodLink own idx y ∈ pw_T) (hroom : rm'.frames + 1 ≤ R.frames ∧ 8 + (nL' + 11) + rm'.locals ≤ R.locals) : CallB R s args own idx y cc' nL' ret' (.code y cc' nL' ret' :: pw_T) rm' rm'.cells rm'.slots n :=
  callB_of n C.2.2.2.2.1 (pw_goodT hY.1) rfl rfl rfl (C.2.2.2.2.1 _ hY.2.1) (C.2.2.2.2.1 _ hlink) hY.2.2 hroom
theorem pw_callV (C : pw_C g p s m args meth c cc nL own) (hM : pw_M g l y cc' nL' ret' rm' (.ref a :: As) w post) (hY : pw_YV y cc' nL' ret' n) (hlink : Cond.methodLink own idx y ∈ pw_T) (hrec : pw_rec g s w a y.cls) (hn : As.length = n) (hroom : rm'.frames + 1 ≤ R.frames ∧ 8 + (nL' + 11) + rm'.locals ≤ R.locals) (hcs : cells + rm'.cells ≤ R.cells ∧ slots + rm'.slots ≤ R.slots) (hst : stk = As.reverse ++ .ref a :: st) (h8 : (st.map fun v => v.category).sum ≤ 8) (hd : decode cc pc = .ok (.invokevirtual idx, 3))
    (kk : ∀ (r : Option Value) (w' : pw_W), post r w' → pw_G g p l e R s m args below meth c nL Q (cells + rm'.cells) (slots + rm'.slots) (pc + 3) lv (r.toList ++ st) w') : pw_G g p l e R s m args below meth c nL Q cells slots pc lv stk w := by
  intro ls H locs hl hH hS
  refine pw_cont (va_runV (As := As) (C := y.cls) ⟨C.1, C.2.1, C.2.2.1, C.2.2.2.1, C.2.2.2.2.1⟩ hM ⟨pw_cb C hY.1 hlink hroom, C.2.2.2.2.1 _ hY.2.1, C.2.2.2.2.1 _ hY.2.2⟩ ⟨pw_blind, hrec H locs hH hS, pw_pre C hH hS _⟩ rfl hn hl.1 hst (lv_room h8) hd hcs) hS ?_
  exact fun r w' H1 locs1 hp hH1 hS1 => kk r w' hp ls H1 locs1 hl hH1 hS1
theorem pw_callS (C : pw_C g p s m args meth c cc nL own) (hM : pw_M g l y cc' nL' ret' rm' As w post) (hY : pw_YS y cc' nL' ret' n) (hlink : Cond.methodLink own idx y ∈ pw_T) (hn : As.length = n) (hroom : rm'.frames + 1 ≤ R.frames ∧ 8 + (nL' + 11) + rm'.locals ≤ R.locals) (hcs : cells + rm'.cells ≤ R.cells ∧ slots + rm'.slots ≤ R.slots) (hst : stk = As.reverse ++ st) (h8 : (st.map fun v => v.category).sum ≤ 8) (hd : decode cc pc = .ok (.invokestatic idx, 3))
    (kk : ∀ (r : Option Value) (w' : pw_W), post r w' → pw_G g p l e R s m args below meth c nL Q (cells + rm'.cells) (slots + rm'.slots) (pc + 3) lv (r.toList ++ st) w') : pw_G g p l e R s m args below meth c nL Q cells slots pc lv stk w := by
  intro ls H locs hl hH hS
  refine pw_cont (va_runS (As := As) ⟨C.1, C.2.1, C.2.2.1, C.2.2.2.1, C.2.2.2.2.1⟩ hM ⟨pw_cb C hY.1 hlink hroom, C.2.2.2.2.1 _ hY.2⟩ ⟨pw_blind, pw_pre C hH hS _⟩ rfl hn hl.1 hst (lv_room h8) hd hcs) hS ?_
  exact fun r w' H1 locs1 hp hH1 hS1 => kk r w' hp ls H1 locs1 hl hH1 hS1
theorem pw_callI (C : pw_C g p s m args meth c cc nL own) (hM : pw_M g l y cc' nL' none rm' (.ref a :: As) w post) (hY : pw_YI y cc' nL' n) (hlink : Cond.methodLink own idx y ∈ pw_T) (hn : As.length = n) (hroom : rm'.frames + 1 ≤ R.frames ∧ 8 + (nL' + 11) + rm'.locals ≤ R.locals) (hcs : cells + rm'.cells ≤ R.cells ∧ slots + rm'.slots ≤ R.slots) (hst : stk = As.reverse ++ .ref a :: st) (h8 : (st.map fun v => v.category).sum ≤ 8) (hd : decode cc pc = .ok (.invokespecial idx, 3))
    (kk : ∀ (r : Option Value) (w' : pw_W), post r w' → pw_G g p l e R s m args below meth c nL Q (cells + rm'.cells) (slots + rm'.slots) (pc + 3) lv (r.toList ++ st) w') : pw_G g p l e R s m args below meth c nL Q cells slots pc lv stk w := by
  intro ls H locs hl hH hS
  refine pw_cont (va_runI (As := As) ⟨C.1, C.2.1, C.2.2.1, C.2.2.2.1, C.2.2.2.2.1⟩ hM ⟨pw_cb C hY.1 hlink hroom, hY.2.2, C.2.2.2.2.1 _ hY.2.1⟩ ⟨pw_blind, pw_pre C hH hS _⟩ rfl hn hl.1 hst (lv_room h8) hd hcs) hS ?_
  exact fun r w' H1 locs1 hp hH1 hS1 => kk r w' hp ls H1 locs1 hl hH1 hS1
theorem pw_callIN (C : pw_C g p s m args meth c cc nL own) (hM : pw_M g l y cc' nL' none rm' (.ref a :: As) w post) (hY : pw_YI y cc' nL' n) (hlink : Cond.methodLinkNest own idx y host ∈ pw_N) (hn : As.length = n) (hroom : rm'.frames + 1 ≤ R.frames ∧ 8 + (nL' + 11) + rm'.locals ≤ R.locals) (hcs : cells + rm'.cells ≤ R.cells ∧ slots + rm'.slots ≤ R.slots) (hst : stk = As.reverse ++ .ref a :: st) (h8 : (st.map fun v => v.category).sum ≤ 8) (hd : decode cc pc = .ok (.invokespecial idx, 3))
    (kk : ∀ (r : Option Value) (w' : pw_W), post r w' → pw_G g p l e R s m args below meth c nL Q (cells + rm'.cells) (slots + rm'.slots) (pc + 3) lv (r.toList ++ st) w') : pw_G g p l e R s m args below meth c nL Q cells slots pc lv stk w := by
  intro ls H locs hl hH hS
  refine pw_cont (va_runIN (As := As) ⟨C.1, C.2.1, C.2.2.1, C.2.2.2.1, C.2.2.2.2.1⟩ hM ⟨va_cnB (ws' := pw_T) n C.2.2.2.2.1 (pw_goodT hY.1.1) rfl rfl rfl (C.2.2.2.2.2.2.2.2.1 _ hlink) (C.2.2.2.2.1 _ hY.1.2.1) hY.1.2.2 hroom, hY.2.2, C.2.2.2.2.1 _ hY.2.1⟩ ⟨pw_blind, pw_pre C hH hS _⟩ rfl hn hl.1 hst (lv_room h8) hd hcs) hS ?_
  exact fun r w' H1 locs1 hp hH1 hS1 => kk r w' hp ls H1 locs1 hl hH1 hS1
/-- Object's constructor -/
theorem pw_obj (C : pw_C g p s m args meth c cc nL own) (h1 : Cond.methodLink own idx objectInit ∈ pw_T) (h2 : Cond.instanceMethod objectInit ∈ pw_T) (h3 : Cond.code objectInit ⟨#[0xb1]⟩ 1 none ∈ pw_T) (hf : 1 ≤ R.frames) (hlo : (st.map fun v => v.category).sum + 12 ≤ R.locals) (hd : decode cc pc = .ok (.invokespecial idx, 3))
    (kk : pw_G g p l e R s m args below meth c nL Q cells slots (pc + 3) lv st w) : pw_G g p l e R s m args below meth c nL Q cells slots pc lv (.ref a :: st) w := by
  intro ls H locs hl hH hS
  refine W.objInit C.1 C.2.1 C.2.2.2.1 (C.2.2.2.2.1 _ h1) (C.2.2.2.2.1 _ h2) (C.2.2.2.2.1 _ h3) rfl (by rw [C.2.2.1]; exact hl.1) rfl hd hf ?_ ?_
  · show 2 * 0 + _ + 12 ≤ _
    omega
  · exact W.eq (g2 := F0 m (pc + 3) ls st) rfl (kk ls H locs hl hH hS)
theorem pw_max (C : pw_C g p s m args meth c cc nL own) {x z : Int} (hx : inI x) (hz : inI z) (h1 : Cond.methodLink own idx Lib.Math.max.name ∈ pw_T) (h2 : Cond.static Lib.Math.max.name ∈ pw_T) (h3 : Cond.initialized "java/lang/Math" ∈ pw_T) (h4 : Cond.code Lib.Math.max.name Lib.Math.max.code 2 (some .int) ∈ pw_T) (hf : 1 ≤ R.frames) (hlo : (st.map fun v => v.category).sum + 13 ≤ R.locals) (hc : cells ≤ R.cells ∧ slots ≤ R.slots) (hd : decode cc pc = .ok (.invokestatic idx, 3))
    (kk : pw_G g p l e R s m args below meth c nL Q cells slots (pc + 3) lv (.int (iZ (if x < z then z else x)) :: st) w) : pw_G g p l e R s m args below meth c nL Q cells slots pc lv (.int (iZ z) :: .int (iZ x) :: st) w := by
  intro ls H locs hl hH hS
  refine va_mmax C.1 C.2.1 (by rw [C.2.2.1]; exact hl.1.symm) C.2.2.2.1 (C.2.2.2.2.1 _ h1) (C.2.2.2.2.1 _ h2) (C.2.2.2.2.1 _ h3) (C.2.2.2.2.1 _ h4) hf hlo hc.1 hc.2 hd ?_
  have h := kk ls H locs hl hH hS
  have e : (if iZ x < iZ z then iZ z else iZ x) = iZ (if x < z then z else x) := by
    by_cases hq : x < z
    · rw [if_pos hq, if_pos ((iz_lt hx hz).mpr hq)]
    · rw [if_neg hq, if_neg (fun h => hq ((iz_lt hx hz).mp h))]
  rw [e]
  exact h
theorem pw_min (C : pw_C g p s m args meth c cc nL own) {x z : Int} (hx : inI x) (hz : inI z) (h1 : Cond.methodLink own idx Lib.Math.min.name ∈ pw_T) (h2 : Cond.static Lib.Math.min.name ∈ pw_T) (h3 : Cond.initialized "java/lang/Math" ∈ pw_T) (h4 : Cond.code Lib.Math.min.name Lib.Math.min.code 2 (some .int) ∈ pw_T) (hf : 1 ≤ R.frames) (hlo : (st.map fun v => v.category).sum + 13 ≤ R.locals) (hc : cells ≤ R.cells ∧ slots ≤ R.slots) (hd : decode cc pc = .ok (.invokestatic idx, 3))
    (kk : pw_G g p l e R s m args below meth c nL Q cells slots (pc + 3) lv (.int (iZ (if z < x then z else x)) :: st) w) : pw_G g p l e R s m args below meth c nL Q cells slots pc lv (.int (iZ z) :: .int (iZ x) :: st) w := by
  intro ls H locs hl hH hS
  refine va_mmin C.1 C.2.1 (by rw [C.2.2.1]; exact hl.1.symm) C.2.2.2.1 (C.2.2.2.2.1 _ h1) (C.2.2.2.2.1 _ h2) (C.2.2.2.2.1 _ h3) (C.2.2.2.2.1 _ h4) hf hlo hc.1 hc.2 hd ?_
  have h := kk ls H locs hl hH hS
  have e : (if iZ z < iZ x then iZ z else iZ x) = iZ (if z < x then z else x) := by
    by_cases hq : z < x
    · rw [if_pos hq, if_pos ((iz_lt hz hx).mpr hq)]
    · rw [if_neg hq, if_neg (fun h => hq ((iz_lt hz hx).mp h))]
  rw [e]
  exact h
end
