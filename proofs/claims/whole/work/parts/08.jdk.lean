/-! CONSTANTS: texts, the table -/
section
variable {g : pw_P} {p : Program} {l : Launch} {e : Env} {R : Room} {s : State} {m : MethodId} {args : Array Value} {below : List Frame} {meth : Method} {c : Code} {cc : ByteArray} {nL : Nat} {own : String} {Q : State → Prop} {cells slots pc : Nat} {lv : List (Nat × Value)} {st : List Value} {w : pw_W}
theorem pw_stk {st' : List Value} (h : st = st') (k : pw_G g p l e R s m args below meth c nL Q cells slots pc lv st' w) : pw_G g p l e R s m args below meth c nL Q cells slots pc lv st w := h ▸ k
theorem pw_C.F (C : pw_C g p s m args meth c cc nL own) : pw_F g s s.heap := C.2.2.2.2.2.2.2.2
theorem pw_C.str34 (C : pw_C g p s m args meth c cc nL own) : vk_R "LispMachine$Store" 34 pw_t0 (g.2.2.2 0) s := C.F.2.2.1.1
theorem pw_C.str42 (C : pw_C g p s m args meth c cc nL own) : vk_R "LispMachine$Store" 42 pw_t1 (g.2.2.2 1) s := C.F.2.2.1.2.1
theorem pw_C.str76 (C : pw_C g p s m args meth c cc nL own) : vk_R "LispMachine$Reader" 76 pw_t1 (g.2.2.2 1) s := C.F.2.2.1.2.2.1
theorem pw_C.str92 (C : pw_C g p s m args meth c cc nL own) : vk_R "LispMachine$Teller" 92 pw_t1 (g.2.2.2 1) s := C.F.2.2.1.2.2.2
theorem pw_ldcS (C : pw_C g p s m args meth c cc nL own) {idx a : Nat} {tx : String} (h : vk_R own idx tx a s) (hd : decode cc pc = .ok (.ldc idx, 2)) (k : pw_G g p l e R s m args below meth c nL Q cells slots (pc + 2) lv (.ref a :: st) w) : pw_G g p l e R s m args below meth c nL Q cells slots pc lv st w :=
  fun ls H locs hl hH hS => va_ldcS C.1 C.2.1 C.2.2.2.1 h hd (k ls H locs hl hH hS)
theorem pw_getZ (C : pw_C g p s m args meth c cc nL own) {idx : Nat} {cn n d : String} {v : Value} (h : va_Z cn n d v (pw_A g) s s.heap) (hlink : Cond.fieldLink own idx cn n d ∈ pw_T) (hd : decode cc pc = .ok (.getstatic idx, 3)) (k : pw_G g p l e R s m args below meth c nL Q cells slots (pc + 3) lv (v :: st) w) : pw_G g p l e R s m args below meth c nL Q cells slots pc lv st w :=
  fun ls H locs hl hH hS => va_gets C.1 C.2.1 h hS C.2.2.2.1 (C.2.2.2.2.1 _ hlink) (fun x hx => hx) hd (k ls H locs hl hH hS)
theorem pw_getO (C : pw_C g p s m args meth c cc nL own) {idx a : Nat} {cn n d : String} {v : Value} (h : va_OF cn n d v a (pw_A g) s s.heap) (hlink : Cond.fieldLink own idx cn n d ∈ pw_T) (hd : decode cc pc = .ok (.getfield idx, 3)) (k : pw_G g p l e R s m args below meth c nL Q cells slots (pc + 3) lv (v :: st) w) : pw_G g p l e R s m args below meth c nL Q cells slots pc lv (.ref a :: st) w :=
  fun ls H locs hl hH hS => vk_getf C.1 C.2.1 h hS C.2.2.2.1 (C.2.2.2.2.1 _ hlink) (fun x hx => hx) hd (k ls H locs hl hH hS)
/-- the bytes of a text -/
def chZ (i : Nat) (k : Int) : Int := ((pw_byt.getD i []).getD k.toNat 0).toInt
def chN (i : Nat) : Int := ((pw_len.getD i 0 : Nat) : Int)
theorem chN_in (i : Nat) (hi : i < 2) : 0 ≤ chN i ∧ chN i < 200 := by
  match i, hi with
  | 0, _ => decide
  | 1, _ => decide
theorem chZ_in (i : Nat) (k : Int) : 0 ≤ chZ i k ∧ chZ i k < 128 := by
  have key : ∀ (L : List Int32), (∀ b ∈ L, 0 ≤ b.toInt ∧ b.toInt < 128) → ∀ j : Nat, 0 ≤ (L.getD j 0).toInt ∧ (L.getD j 0).toInt < 128 := by
    intro L hL j
    rw [List.getD_eq_getElem?_getD]
    cases h : L[j]? with
    | none => exact ⟨by decide, by decide⟩
    | some b => exact hL b (List.mem_of_getElem? h)
  unfold chZ
  match i with
  | 0 => exact key pw_s0 (by decide) _
  | 1 => exact key pw_s1 (by decide) _
  | i + 2 => exact key [] (fun b h => absurd h List.not_mem_nil) _
theorem pw_C.val (C : pw_C g p s m args meth c cc nL own) {i : Nat} (hi : i < 2) : va_OF "java/lang/String" "value" "[B" (.ref (g.2.2.2 (2 + i))) (g.2.2.2 i) (pw_A g) s s.heap := (C.F.2.1.1 i hi).2.2.1
theorem pw_C.cod (C : pw_C g p s m args meth c cc nL own) {i : Nat} (hi : i < 2) : va_OF "java/lang/String" "coder" "B" (.int (iZ 0)) (g.2.2.2 i) (pw_A g) s s.heap := by
  rw [iz_0]; exact (C.F.2.1.1 i hi).2.1
theorem pw_C.cmp (C : pw_C g p s m args meth c cc nL own) : va_Z "java/lang/String" "COMPACT_STRINGS" "Z" (.int (iZ 1)) (pw_A g) s s.heap := by
  rw [show iZ 1 = 1 by decide]; exact C.F.2.2.2.1
theorem pw_blen (C : pw_C g p s m args meth c cc nL own) {i : Nat} (hi : i < 2) (hd : decode cc pc = .ok (.arraylength, 1)) (k : pw_G g p l e R s m args below meth c nL Q cells slots (pc + 1) lv (.int (iZ (chN i)) :: st) w) : pw_G g p l e R s m args below meth c nL Q cells slots pc lv (.ref (g.2.2.2 (2 + i)) :: st) w :=
  fun ls H locs hl hH hS => va_tlen C.1 C.2.1 (C.F.2.1.1 i hi).2.2.2 hS (by exact Int32.ofInt_eq_ofNat.symm) hd (k ls H locs hl hH hS)
theorem pw_bald (C : pw_C g p s m args meth c cc nL own) {i : Nat} (hi : i < 2) {z : Int} (h : 0 ≤ z ∧ z < chN i) (hd : decode cc pc = .ok (.baload, 1)) (k : pw_G g p l e R s m args below meth c nL Q cells slots (pc + 1) lv (.int (iZ (chZ i z)) :: st) w) : pw_G g p l e R s m args below meth c nL Q cells slots pc lv (.int (iZ z) :: .ref (g.2.2.2 (2 + i)) :: st) w := by
  intro ls H locs hl hH hS
  have hb := chN_in i hi
  refine va_tb C.1 C.2.1 (C.F.2.1.1 i hi).2.2.2 hS (iz_in h.1 h.2 (by omega)) (v := .int (iZ (chZ i z))) ?_ hd (k ls H locs hl hH hS)
  rw [iz_clamp ⟨by omega, by omega⟩]
  exact congrArg Value.int (Int32.ofInt_toInt _).symm
theorem pw_btl (C : pw_C g p s m args meth c cc nL own) {z : Int} (h : 0 ≤ z ∧ z < 17) (hd : decode cc pc = .ok (.iaload, 1)) (k : pw_G g p l e R s m args below meth c nL Q cells slots (pc + 1) lv (.int (iZ (pw_bt z.toNat)) :: st) w) : pw_G g p l e R s m args below meth c nL Q cells slots pc lv (.int (iZ z) :: .ref (g.2.2.2 4) :: st) w := by
  intro ls H locs hl hH hS
  refine va_ti C.1 C.2.1 C.F.2.2.2.2.2.1 hS (iz_in h.1 (by omega) (by omega)) (v := .int (iZ (pw_bt z.toNat))) ?_ hd (k ls H locs hl hH hS)
  rw [iz_clamp ⟨by omega, by omega⟩]
theorem pw_btlen (C : pw_C g p s m args meth c cc nL own) (hd : decode cc pc = .ok (.arraylength, 1)) (k : pw_G g p l e R s m args below meth c nL Q cells slots (pc + 1) lv (.int (iZ 17) :: st) w) : pw_G g p l e R s m args below meth c nL Q cells slots pc lv (.ref (g.2.2.2 4) :: st) w :=
  fun ls H locs hl hH hS => va_tlen C.1 C.2.1 C.F.2.2.2.2.2.1 hS (by decide) hd (k ls H locs hl hH hS)
theorem cat_i (x : Int32) : (Value.int x).category = 1 := rfl
theorem cat_r (x : Nat) : (Value.ref x).category = 1 := rfl
theorem cat_n : Value.null.category = 1 := rfl
theorem cat_l (x : Int64) : (Value.long x).category = 2 := rfl
theorem va_rf_cat (v : Option Nat) : (va_rf v).category = 1 := by cases v <;> rfl
theorem va_rf_fit {cn : String} (v : Option Nat) : fits (.object cn) (va_rf v) = true := by cases v <;> rfl
/-- the world's places under other numbers, some left out -/
theorem pw_ren {w2 : pw_W} (π : Nat → Nat) (h : ∀ i e, (w2 i).2 = some e → w (π i) = w2 i) (hπ : ∀ i j e f, (w2 i).2 = some e → (w2 j).2 = some f → π i = π j → i = j) (k : pw_G g p l e R s m args below meth c nL Q cells slots pc lv st w2) : pw_G g p l e R s m args below meth c nL Q cells slots pc lv st w := by
  intro ls H locs hl hH hS
  refine k ls H locs hl ⟨fun i a e hi => ?_, fun i j a e f hi hj => ?_⟩ hS
  · exact hH.1 (π i) a e ((h i e (by rw [hi])).trans hi)
  · exact hπ i j e f (by rw [hi]) (by rw [hj]) (hH.2 _ _ a e f ((h i e (by rw [hi])).trans hi) ((h j f (by rw [hj])).trans hj))
end
/-- what indexOf answers -/
def ixF (i : Nat) (x : Int) : Nat → Int → Int
  | 0, _ => -1
  | f + 1, k => if chZ i k = x then k else ixF i x f (k + 1)
def ixZ (i : Nat) (x : Int) : Int := ixF i x (chN i).toNat 0
theorem ixF_out (i : Nat) {x : Int} (hx : 255 < x) : ∀ (f : Nat) (k : Int), ixF i x f k = -1
  | 0, k => rfl
  | f + 1, k => by
    have := chZ_in i k
    rw [ixF, if_neg (by omega)]
    exact ixF_out i hx f (k + 1)
def byZ (x : Int) : Int := if x < 128 then x else x - 256
theorem byZ_of {x : Int} (h : 0 ≤ x ∧ x < 256) : (iZ x).toInt8.toInt32 = iZ (byZ x) := by
  obtain ⟨n, hn, rfl⟩ : ∃ n : Nat, n < 256 ∧ x = n := ⟨x.toNat, by omega, by omega⟩
  have key : ∀ n : Fin 256, (iZ (n.val : Int)).toInt8.toInt32 = iZ (byZ (n.val : Int)) := by decide +kernel
  exact key ⟨n, hn⟩

set_option maxRecDepth 100000 in
set_option maxHeartbeats 4000000 in
/-- isLatin1 -/
theorem m_J0_isLatin1_aae02 (g : pw_P) (l : Launch) {w : pw_W} {i : Nat} (hi : i < 2) : pw_M g l yJ0_isLatin1_aae02 cJ0_isLatin1_aae02 1 (some .boolean) { frames := 0, cells := 0, slots := 0, locals := 0 } [.ref (g.2.2.2 i)] w (fun r w' => w = w' ∧ r = some (.int (iZ 1))) := by
  refine pw_M.of (by decide) (Nat.le_of_ble_eq_true rfl) rfl ?_
  intro p e s m args below meth c C hr hn
  refine pw_getZ C C.cmp fl_J0_38 dJ0_isLatin1_aae02_0 ?_
  refine pw_if_eq (tgt := 17) C (by omega) dJ0_isLatin1_aae02_3 (by decide) (fun h_1 => ?_) (fun h_1 => ?_)
  · exfalso; omega
  · refine pw_aload_n (i := 0) C dJ0_isLatin1_aae02_6 rfl rfl (Or.inr ⟨_, rfl⟩) ?_
    refine pw_getO C (C.cod hi) fl_J0_15 dJ0_isLatin1_aae02_7 ?_
    refine pw_if_ne (tgt := 17) C (by omega) dJ0_isLatin1_aae02_10 (by decide) (fun h_2 => ?_) (fun h_2 => ?_)
    · exfalso; omega
    · refine pw_iconst C dJ0_isLatin1_aae02_13 ?_
      refine pw_goto (tgt := 18) C dJ0_isLatin1_aae02_14 (by decide) ?_
      exact pw_zret C hr (by decide +kernel) dJ0_isLatin1_aae02_18 ⟨rfl, rfl⟩

set_option maxRecDepth 100000 in
set_option maxHeartbeats 4000000 in
/-- coder -/
theorem m_J0_coder_7d493 (g : pw_P) (l : Launch) {w : pw_W} {i : Nat} (hi : i < 2) : pw_M g l yJ0_coder_7d493 cJ0_coder_7d493 1 (some .byte) { frames := 0, cells := 0, slots := 0, locals := 0 } [.ref (g.2.2.2 i)] w (fun r w' => w = w' ∧ r = some (.int (iZ 0))) := by
  refine pw_M.of (by decide) (Nat.le_of_ble_eq_true rfl) rfl ?_
  intro p e s m args below meth c C hr hn
  refine pw_getZ C C.cmp fl_J0_38 dJ0_coder_7d493_0 ?_
  refine pw_if_eq (tgt := 13) C (by omega) dJ0_coder_7d493_3 (by decide) (fun h_1 => ?_) (fun h_1 => ?_)
  · exfalso; omega
  · refine pw_aload_n (i := 0) C dJ0_coder_7d493_6 rfl rfl (Or.inr ⟨_, rfl⟩) ?_
    refine pw_getO C (C.cod hi) fl_J0_15 dJ0_coder_7d493_7 ?_
    refine pw_goto (tgt := 14) C dJ0_coder_7d493_10 (by decide) ?_
    exact pw_zret C hr (by decide +kernel) dJ0_coder_7d493_14 ⟨rfl, rfl⟩

set_option maxRecDepth 100000 in
set_option maxHeartbeats 4000000 in
/-- length -/
theorem m_J0_length_8abf5 (g : pw_P) (l : Launch) {w : pw_W} {i : Nat} (hi : i < 2) : pw_M g l yJ0_length_8abf5 cJ0_length_8abf5 1 (some .int) { frames := 1, cells := 0, slots := 0, locals := 20 } [.ref (g.2.2.2 i)] w (fun r w' => w = w' ∧ r = some (.int (iZ (chN i)))) := by
  refine pw_M.of (by decide) (Nat.le_of_ble_eq_true rfl) rfl ?_
  intro p e s m args below meth c C hr hn
  refine pw_aload_n (i := 0) C dJ0_length_8abf5_0 rfl rfl (Or.inr ⟨_, rfl⟩) ?_
  refine pw_getO C (C.val hi) fl_J0_9 dJ0_length_8abf5_1 ?_
  refine pw_blen C hi dJ0_length_8abf5_4 ?_
  refine pw_aload_n (i := 0) C dJ0_length_8abf5_5 rfl rfl (Or.inr ⟨_, rfl⟩) ?_
  refine pw_callV (As := []) (st := [.int (iZ (chN i))]) C (m_J0_coder_7d493 g l hi) my_J0_coder_7d493 ml_J0_335 (pw_rec.str C hi) rfl ⟨by decide, by decide⟩ ⟨Nat.le_of_ble_eq_true rfl, Nat.le_of_ble_eq_true rfl⟩ rfl (Nat.le_of_ble_eq_true rfl) dJ0_length_8abf5_6 ?_
  rintro _ _ ⟨rfl, rfl⟩
  refine pw_stk (st' := [.int (iZ 0), .int (iZ (chN i))]) rfl ?_
  refine pw_ishr (z := chN i) C dJ0_length_8abf5_9 (by match i, hi with | 0, _ => decide | 1, _ => decide) ?_
  exact pw_iret C hr dJ0_length_8abf5_10 ⟨rfl, rfl⟩

set_option maxRecDepth 100000 in
set_option maxHeartbeats 4000000 in
/-- canEncode -/
theorem m_J1_canEncode_9a6ad (g : pw_P) (l : Launch) {w : pw_W} {x : Int} (hx : 0 ≤ x ∧ x < 65536) : pw_M g l yJ1_canEncode_9a6ad cJ1_canEncode_9a6ad 1 (some .boolean) { frames := 0, cells := 0, slots := 0, locals := 0 } [.int (iZ x)] w (fun r w' => w = w' ∧ r = some (.int (iZ (b2i (decide (x ≤ 255)))))) := by
  refine pw_M.of (by decide) (Nat.le_of_ble_eq_true rfl) rfl ?_
  intro p e s m args below meth c C hr hn
  refine pw_iload_n (i := 0) C dJ1_canEncode_9a6ad_0 rfl rfl ?_
  refine pw_if_lt (tgt := 15) C (by omega) dJ1_canEncode_9a6ad_1 (by decide) (fun h_1 => ?_) (fun h_1 => ?_)
  · exfalso; omega
  · refine pw_iload_n (i := 0) C dJ1_canEncode_9a6ad_4 rfl rfl ?_
    refine pw_sipush C dJ1_canEncode_9a6ad_5 (by decide) ?_
    refine pw_icmp_gt (tgt := 15) C (by omega) (by omega) dJ1_canEncode_9a6ad_8 (by decide) (fun h_2 => ?_) (fun h_2 => ?_)
    · refine pw_iconst C dJ1_canEncode_9a6ad_15 ?_
      exact pw_zret C hr (by decide +kernel) dJ1_canEncode_9a6ad_16 ⟨rfl, by rw [show decide (x ≤ 255) = false by simp; omega]; rfl⟩
    · refine pw_iconst C dJ1_canEncode_9a6ad_11 ?_
      refine pw_goto (tgt := 16) C dJ1_canEncode_9a6ad_12 (by decide) ?_
      exact pw_zret C hr (by decide +kernel) dJ1_canEncode_9a6ad_16 ⟨rfl, by rw [show decide (x ≤ 255) = true by simp; omega]; rfl⟩

set_option maxRecDepth 100000 in
set_option maxHeartbeats 4000000 in
/-- indexOfChar -/
theorem m_J1_indexOfChar_4cfef (g : pw_P) (l : Launch) {w : pw_W} {i : Nat} (hi : i < 2) {x : Int} (hx : 0 ≤ x ∧ x < 256) : pw_M g l yJ1_indexOfChar_4cfef cJ1_indexOfChar_4cfef 6 (some .int) { frames := 0, cells := 0, slots := 0, locals := 0 } [.ref (g.2.2.2 (2 + i)), .int (iZ x), .int (iZ 0), .int (iZ (chN i))] w (fun r w' => w = w' ∧ r = some (.int (iZ (ixZ i x)))) := by
  refine pw_M.of (by decide) (Nat.le_of_ble_eq_true rfl) rfl ?_
  intro p e s m args below meth c C hr hn
  have hb := chN_in i hi
  have hby : byZ x = x ∨ byZ x = x - 256 ∧ 128 ≤ x := by unfold byZ; split <;> omega
  have hbz : inI (byZ x) := by omega
  have hb2 : 128 ≤ x ∨ byZ x = x := by unfold byZ; split <;> omega
  have loop : ∀ (fu : Nat) (k : Int), 0 ≤ k → k + fu = chN i → ixF i x fu k = ixZ i x → pw_G g p l e { frames := 0, cells := 0, slots := 0, locals := 0 } s m args below meth c 6 (pw_Q g below (fun r w' => w = w' ∧ r = some (.int (iZ (ixZ i x)))) args s { frames := 0, cells := 0, slots := 0, locals := 0 }) 0 0 7 [(0, .ref (g.2.2.2 (2 + i))), (1, .int (iZ x)), (2, .int (iZ 0)), (3, .int (iZ (chN i))), (4, .int (iZ (byZ x))), (5, .int (iZ k))] [] w := by
    intro fu
    induction fu with
    | zero =>
      intro k hk hf he
      refine pw_iload C dJ1_indexOfChar_4cfef_7 rfl ?_
      refine pw_iload_n (i := 3) C dJ1_indexOfChar_4cfef_9 rfl rfl ?_
      refine pw_icmp_ge (tgt := 31) C (by omega) (by omega) dJ1_indexOfChar_4cfef_10 (by decide) (fun h_1 => ?_) (fun h_1 => ?_)
      · refine pw_iconst C dJ1_indexOfChar_4cfef_31 ?_
        exact pw_iret C hr dJ1_indexOfChar_4cfef_32 ⟨rfl, by rw [← he]; rfl⟩
      · exfalso; omega
    | succ fu ih =>
      intro k hk hf he
      refine pw_iload C dJ1_indexOfChar_4cfef_7 rfl ?_
      refine pw_iload_n (i := 3) C dJ1_indexOfChar_4cfef_9 rfl rfl ?_
      refine pw_icmp_ge (tgt := 31) C (by omega) (by omega) dJ1_indexOfChar_4cfef_10 (by decide) (fun h_101 => ?_) (fun h_101 => ?_)
      · exfalso; omega
      · refine pw_aload_n (i := 0) C dJ1_indexOfChar_4cfef_13 rfl rfl (Or.inr ⟨_, rfl⟩) ?_
        refine pw_iload C dJ1_indexOfChar_4cfef_14 rfl ?_
        refine pw_bald C hi ⟨by omega, by omega⟩ dJ1_indexOfChar_4cfef_16 ?_
        have g_102 := chZ_in i k
        refine pw_iload C dJ1_indexOfChar_4cfef_17 rfl ?_
        refine pw_icmp_ne (tgt := 25) C (by omega) (by omega) dJ1_indexOfChar_4cfef_19 (by decide) (fun h_103 => ?_) (fun h_103 => ?_)
        · refine pw_iinc (lv' := [(0, .ref (g.2.2.2 (2 + i))), (1, .int (iZ x)), (2, .int (iZ 0)), (3, .int (iZ (chN i))), (4, .int (iZ (byZ x))), (5, .int (iZ (k + 1)))]) C dJ1_indexOfChar_4cfef_25 rfl (by decide) rfl ?_
          refine pw_goto (tgt := 7) C dJ1_indexOfChar_4cfef_28 (by decide) ?_
          exact ih (k + 1) (by omega) (by omega) (by rw [← he, ixF, if_neg (by omega)])
        · refine pw_iload C dJ1_indexOfChar_4cfef_22 rfl ?_
          exact pw_iret C hr dJ1_indexOfChar_4cfef_24 ⟨rfl, by rw [← he, ixF, if_pos (by omega)]⟩
  refine pw_iload_n (i := 1) C dJ1_indexOfChar_4cfef_0 rfl rfl ?_
  refine pw_i2b (z := byZ x) C dJ1_indexOfChar_4cfef_1 (byZ_of hx) ?_
  refine pw_istore (lv' := [(0, .ref (g.2.2.2 (2 + i))), (1, .int (iZ x)), (2, .int (iZ 0)), (3, .int (iZ (chN i))), (4, .int (iZ (byZ x)))]) C dJ1_indexOfChar_4cfef_2 (by decide) rfl ?_
  refine pw_iload_n (i := 2) C dJ1_indexOfChar_4cfef_4 rfl rfl ?_
  refine pw_istore (lv' := [(0, .ref (g.2.2.2 (2 + i))), (1, .int (iZ x)), (2, .int (iZ 0)), (3, .int (iZ (chN i))), (4, .int (iZ (byZ x))), (5, .int (iZ 0))]) C dJ1_indexOfChar_4cfef_5 (by decide) rfl ?_
  exact loop (chN i).toNat 0 (by omega) (by omega) rfl

set_option maxRecDepth 100000 in
set_option maxHeartbeats 4000000 in
/-- StringLatin1.indexOf -/
theorem m_J1_indexOf_4cfef (g : pw_P) (l : Launch) {w : pw_W} {i : Nat} (hi : i < 2) (hb : 0 < chN i) {x : Int} (hx : 0 ≤ x ∧ x < 65536) : pw_M g l yJ1_indexOf_4cfef cJ1_indexOf_4cfef 4 (some .int) { frames := 1, cells := 0, slots := 0, locals := 25 } [.ref (g.2.2.2 (2 + i)), .int (iZ x), .int (iZ 0), .int (iZ (chN i))] w (fun r w' => w = w' ∧ r = some (.int (iZ (ixZ i x)))) := by
  refine pw_M.of (by decide) (Nat.le_of_ble_eq_true rfl) rfl ?_
  intro p e s m args below meth c C hr hn
  have hb2 := chN_in i hi
  refine pw_iload_n (i := 1) C dJ1_indexOf_4cfef_0 rfl rfl ?_
  refine pw_callS (As := [.int (iZ x)]) (st := []) C (m_J1_canEncode_9a6ad g l hx) my_J1_canEncode_9a6ad ml_J1_88 rfl ⟨by decide, by decide⟩ ⟨Nat.le_of_ble_eq_true rfl, Nat.le_of_ble_eq_true rfl⟩ rfl (Nat.le_of_ble_eq_true rfl) dJ1_indexOf_4cfef_1 ?_
  rintro _ _ ⟨rfl, rfl⟩
  refine pw_stk (st' := [.int (iZ (b2i (decide (x ≤ 255))))]) rfl ?_
  refine pw_if_neB (tgt := 9) C dJ1_indexOf_4cfef_4 (by decide) (fun h_1 => ?_) (fun h_1 => ?_)
  · have h_1 : x ≤ 255 := by simpa using h_1
    refine pw_iload_n (i := 2) C dJ1_indexOf_4cfef_9 rfl rfl ?_
    refine pw_iconst C dJ1_indexOf_4cfef_10 ?_
    refine pw_max C (x := 0) (z := 0) (by omega) (by omega) ml_J1_92 ma_max_s ma_i ma_max_c (by decide) (Nat.le_of_ble_eq_true rfl) ⟨by decide, by decide⟩ dJ1_indexOf_4cfef_11 ?_
    rw [if_neg (by omega)]
    refine pw_istore_n (i := 2) (lv' := [(0, .ref (g.2.2.2 (2 + i))), (1, .int (iZ x)), (2, .int (iZ 0)), (3, .int (iZ (chN i)))]) C dJ1_indexOf_4cfef_14 rfl (by decide) rfl ?_
    refine pw_iload_n (i := 3) C dJ1_indexOf_4cfef_15 rfl rfl ?_
    refine pw_aload_n (i := 0) C dJ1_indexOf_4cfef_16 rfl rfl (Or.inr ⟨_, rfl⟩) ?_
    refine pw_blen C hi dJ1_indexOf_4cfef_17 ?_
    refine pw_min C (x := chN i) (z := chN i) (by omega) (by omega) ml_J1_38 ma_min_s ma_i ma_min_c (by decide) (Nat.le_of_ble_eq_true rfl) ⟨by decide, by decide⟩ dJ1_indexOf_4cfef_18 ?_
    rw [if_neg (by omega)]
    refine pw_istore_n (i := 3) (lv' := [(0, .ref (g.2.2.2 (2 + i))), (1, .int (iZ x)), (2, .int (iZ 0)), (3, .int (iZ (chN i)))]) C dJ1_indexOf_4cfef_21 rfl (by decide) rfl ?_
    refine pw_iload_n (i := 2) C dJ1_indexOf_4cfef_22 rfl rfl ?_
    refine pw_iload_n (i := 3) C dJ1_indexOf_4cfef_23 rfl rfl ?_
    refine pw_icmp_lt (tgt := 29) C (by omega) (by omega) dJ1_indexOf_4cfef_24 (by decide) (fun h_2 => ?_) (fun h_2 => ?_)
    · refine pw_aload_n (i := 0) C dJ1_indexOf_4cfef_29 rfl rfl (Or.inr ⟨_, rfl⟩) ?_
      refine pw_iload_n (i := 1) C dJ1_indexOf_4cfef_30 rfl rfl ?_
      refine pw_iload_n (i := 2) C dJ1_indexOf_4cfef_31 rfl rfl ?_
      refine pw_iload_n (i := 3) C dJ1_indexOf_4cfef_32 rfl rfl ?_
      refine pw_callS (As := [.ref (g.2.2.2 (2 + i)), .int (iZ x), .int (iZ 0), .int (iZ (chN i))]) (st := []) C (m_J1_indexOfChar_4cfef g l hi (x := x) (by omega)) my_J1_indexOfChar_4cfef ml_J1_95 rfl ⟨by decide, by decide⟩ ⟨Nat.le_of_ble_eq_true rfl, Nat.le_of_ble_eq_true rfl⟩ rfl (Nat.le_of_ble_eq_true rfl) dJ1_indexOf_4cfef_33 ?_
      rintro _ _ ⟨rfl, rfl⟩
      refine pw_stk (st' := [.int (iZ (ixZ i x))]) rfl ?_
      exact pw_iret C hr dJ1_indexOf_4cfef_36 ⟨rfl, rfl⟩
    · exfalso; omega
  · refine pw_iconst C dJ1_indexOf_4cfef_7 ?_
    exact pw_iret C hr dJ1_indexOf_4cfef_8 ⟨rfl, by rw [show ixZ i x = -1 from ixF_out i (by simpa using h_1) _ _]⟩

set_option maxRecDepth 100000 in
set_option maxHeartbeats 4000000 in
/-- indexOf -/
theorem m_J0_indexOf_7cf53 (g : pw_P) (l : Launch) {w : pw_W} {i : Nat} (hi : i < 2) {x : Int} (hx : 0 ≤ x ∧ x < 65536) : pw_M g l yJ0_indexOf_7cf53 cJ0_indexOf_7cf53 3 (some .int) { frames := 2, cells := 0, slots := 0, locals := 48 } [.ref (g.2.2.2 i), .int (iZ x), .int (iZ 0)] w (fun r w' => w = w' ∧ r = some (.int (iZ (ixZ i x)))) := by
  refine pw_M.of (by decide) (Nat.le_of_ble_eq_true rfl) rfl ?_
  intro p e s m args below meth c C hr hn
  refine pw_aload_n (i := 0) C dJ0_indexOf_7cf53_0 rfl rfl (Or.inr ⟨_, rfl⟩) ?_
  refine pw_callV (As := []) (st := []) C (m_J0_isLatin1_aae02 g l hi) my_J0_isLatin1_aae02 ml_J0_492 (pw_rec.str C hi) rfl ⟨by decide, by decide⟩ ⟨Nat.le_of_ble_eq_true rfl, Nat.le_of_ble_eq_true rfl⟩ rfl (Nat.le_of_ble_eq_true rfl) dJ0_indexOf_7cf53_1 ?_
  rintro _ _ ⟨rfl, rfl⟩
  refine pw_stk (st' := [.int (iZ 1)]) rfl ?_
  refine pw_if_eq (tgt := 23) C (by omega) dJ0_indexOf_7cf53_4 (by decide) (fun h_1 => ?_) (fun h_1 => ?_)
  · exfalso; omega
  · refine pw_aload_n (i := 0) C dJ0_indexOf_7cf53_7 rfl rfl (Or.inr ⟨_, rfl⟩) ?_
    refine pw_getO C (C.val hi) fl_J0_9 dJ0_indexOf_7cf53_8 ?_
    refine pw_iload_n (i := 1) C dJ0_indexOf_7cf53_11 rfl rfl ?_
    refine pw_iload_n (i := 2) C dJ0_indexOf_7cf53_12 rfl rfl ?_
    refine pw_aload_n (i := 0) C dJ0_indexOf_7cf53_13 rfl rfl (Or.inr ⟨_, rfl⟩) ?_
    refine pw_callV (As := []) (st := [.int (iZ 0), .int (iZ x), .ref (g.2.2.2 (2 + i))]) C (m_J0_length_8abf5 g l hi) my_J0_length_8abf5 ml_J0_505 (pw_rec.str C hi) rfl ⟨by decide, by decide⟩ ⟨Nat.le_of_ble_eq_true rfl, Nat.le_of_ble_eq_true rfl⟩ rfl (Nat.le_of_ble_eq_true rfl) dJ0_indexOf_7cf53_14 ?_
    rintro _ _ ⟨rfl, rfl⟩
    refine pw_stk (st' := [.int (iZ (chN i)), .int (iZ 0), .int (iZ x), .ref (g.2.2.2 (2 + i))]) rfl ?_
    refine pw_callS (As := [.ref (g.2.2.2 (2 + i)), .int (iZ x), .int (iZ 0), .int (iZ (chN i))]) (st := []) C (m_J1_indexOf_4cfef g l hi (by match i, hi with | 0, _ => decide | 1, _ => decide) hx) my_J1_indexOf_4cfef ml_J0_637 rfl ⟨by decide, by decide⟩ ⟨Nat.le_of_ble_eq_true rfl, Nat.le_of_ble_eq_true rfl⟩ rfl (Nat.le_of_ble_eq_true rfl) dJ0_indexOf_7cf53_17 ?_
    rintro _ _ ⟨rfl, rfl⟩
    refine pw_stk (st' := [.int (iZ (ixZ i x))]) rfl ?_
    refine pw_goto (tgt := 36) C dJ0_indexOf_7cf53_20 (by decide) ?_
    exact pw_iret C hr dJ0_indexOf_7cf53_36 ⟨rfl, rfl⟩

set_option maxRecDepth 100000 in
set_option maxHeartbeats 4000000 in
/-- indexOf -/
theorem m_J0_indexOf_0f7a4 (g : pw_P) (l : Launch) {w : pw_W} {i : Nat} (hi : i < 2) {x : Int} (hx : 0 ≤ x ∧ x < 65536) : pw_M g l yJ0_indexOf_0f7a4 cJ0_indexOf_0f7a4 2 (some .int) { frames := 3, cells := 0, slots := 0, locals := 70 } [.ref (g.2.2.2 i), .int (iZ x)] w (fun r w' => w = w' ∧ r = some (.int (iZ (ixZ i x)))) := by
  refine pw_M.of (by decide) (Nat.le_of_ble_eq_true rfl) rfl ?_
  intro p e s m args below meth c C hr hn
  refine pw_aload_n (i := 0) C dJ0_indexOf_0f7a4_0 rfl rfl (Or.inr ⟨_, rfl⟩) ?_
  refine pw_iload_n (i := 1) C dJ0_indexOf_0f7a4_1 rfl rfl ?_
  refine pw_iconst C dJ0_indexOf_0f7a4_2 ?_
  refine pw_callV (As := [.int (iZ x), .int (iZ 0)]) (st := []) C (m_J0_indexOf_7cf53 g l hi hx) my_J0_indexOf_7cf53 ml_J0_633 (pw_rec.str C hi) rfl ⟨by decide, by decide⟩ ⟨Nat.le_of_ble_eq_true rfl, Nat.le_of_ble_eq_true rfl⟩ rfl (Nat.le_of_ble_eq_true rfl) dJ0_indexOf_0f7a4_3 ?_
  rintro _ _ ⟨rfl, rfl⟩
  refine pw_stk (st' := [.int (iZ (ixZ i x))]) rfl ?_
  exact pw_iret C hr dJ0_indexOf_0f7a4_6 ⟨rfl, rfl⟩

set_option maxRecDepth 100000 in
set_option maxHeartbeats 4000000 in
/-- checkIndex -/
theorem m_J3_checkIndex_8e157 (g : pw_P) (l : Launch) {w : pw_W} {x y : Int} {v : Option Nat} (hx : 0 ≤ x ∧ x < y ∧ y < 1000) : pw_M g l yJ3_checkIndex_8e157 cJ3_checkIndex_8e157 3 (some .int) { frames := 0, cells := 0, slots := 0, locals := 0 } [.int (iZ x), .int (iZ y), va_rf v] w (fun r w' => w = w' ∧ r = some (.int (iZ x))) := by
  refine pw_M.of (lv := [(0, .int (iZ x)), (1, .int (iZ y)), (2, va_rf v)]) (by decide) (by simp [lg_sl, cat_i, cat_r, cat_n, cat_l, va_rf_cat]) (by simp [lv_args, cat_i, cat_r, cat_n, cat_l, va_rf_cat]) ?_
  intro p e s m args below meth c C hr hn
  refine pw_iload_n (i := 0) C dJ3_checkIndex_8e157_0 rfl rfl ?_
  refine pw_if_lt (tgt := 9) C (by omega) dJ3_checkIndex_8e157_1 (by decide) (fun h_1 => ?_) (fun h_1 => ?_)
  · exfalso; omega
  · refine pw_iload_n (i := 0) C dJ3_checkIndex_8e157_4 rfl rfl ?_
    refine pw_iload_n (i := 1) C dJ3_checkIndex_8e157_5 rfl rfl ?_
    refine pw_icmp_lt (tgt := 16) C (by omega) (by omega) dJ3_checkIndex_8e157_6 (by decide) (fun h_2 => ?_) (fun h_2 => ?_)
    · refine pw_iload_n (i := 0) C dJ3_checkIndex_8e157_16 rfl rfl ?_
      exact pw_iret C hr dJ3_checkIndex_8e157_17 ⟨rfl, rfl⟩
    · exfalso; omega

set_option maxRecDepth 100000 in
set_option maxHeartbeats 4000000 in
/-- checkIndex -/
theorem m_J0_checkIndex_df160 (g : pw_P) (l : Launch) {w : pw_W} {x y : Int} (hx : 0 ≤ x ∧ x < y ∧ y < 1000) : pw_M g l yJ0_checkIndex_df160 cJ0_checkIndex_df160 2 none { frames := 1, cells := 0, slots := 0, locals := 22 } [.int (iZ x), .int (iZ y)] w (fun r w' => w = w' ∧ r = none) := by
  refine pw_M.of (by decide) (Nat.le_of_ble_eq_true rfl) rfl ?_
  intro p e s m args below meth c C hr hn
  refine pw_iload_n (i := 0) C dJ0_checkIndex_df160_0 rfl rfl ?_
  refine pw_iload_n (i := 1) C dJ0_checkIndex_df160_1 rfl rfl ?_
  obtain ⟨v, hv⟩ : ∃ v : Option Nat, va_Z "jdk/internal/util/Preconditions" "SIOOBE_FORMATTER" "Ljava/util/function/BiFunction;" (va_rf v) (pw_A g) s s.heap := by rcases C.F.2.2.2.2.2.2.2.2 with h | ⟨t, h⟩; exact ⟨none, h⟩; exact ⟨some t, h⟩
  refine pw_getZ C hv fl_J0_1053 dJ0_checkIndex_df160_2 ?_
  refine pw_callS (As := [.int (iZ x), .int (iZ y), va_rf v]) (st := []) C (m_J3_checkIndex_8e157 g l hx) my_J3_checkIndex_8e157 ml_J0_1059 rfl ⟨by decide, by decide⟩ ⟨Nat.le_of_ble_eq_true rfl, Nat.le_of_ble_eq_true rfl⟩ rfl (Nat.le_of_ble_eq_true rfl) dJ0_checkIndex_df160_5 ?_
  rintro _ _ ⟨rfl, rfl⟩
  refine pw_stk (st' := [.int (iZ x)]) rfl ?_
  refine pw_pop C dJ0_checkIndex_df160_8 rfl ?_
  exact pw_vret C hr dJ0_checkIndex_df160_9 ⟨rfl, rfl⟩

theorem and255 {x : Int} (h : 0 ≤ x ∧ x < 128) : iZ x &&& iZ 255 = iZ x := by
  obtain ⟨n, hn, rfl⟩ : ∃ n : Nat, n < 128 ∧ x = n := ⟨x.toNat, by omega, by omega⟩
  have key : ∀ n : Fin 128, iZ (n.val : Int) &&& iZ 255 = iZ (n.val : Int) := by decide +kernel
  exact key ⟨n, hn⟩
theorem i2cZ {x : Int} (h : 0 ≤ x ∧ x < 128) : ((iZ x).toUInt32 % 65536).toInt32 = iZ x := by
  obtain ⟨n, hn, rfl⟩ : ∃ n : Nat, n < 128 ∧ x = n := ⟨x.toNat, by omega, by omega⟩
  have key : ∀ n : Fin 128, ((iZ (n.val : Int)).toUInt32 % 65536).toInt32 = iZ (n.val : Int) := by decide +kernel
  exact key ⟨n, hn⟩
theorem char_nar {x : Int} (h : 0 ≤ x ∧ x < 256) : narrow .char (.int (iZ x)) = .int (iZ x) := by
  obtain ⟨n, hn, rfl⟩ : ∃ n : Nat, n < 256 ∧ x = n := ⟨x.toNat, by omega, by omega⟩
  have key : ∀ n : Fin 256, narrow .char (.int (iZ (n.val : Int))) = .int (iZ (n.val : Int)) := by decide +kernel
  exact key ⟨n, hn⟩
set_option maxRecDepth 100000 in
set_option maxHeartbeats 4000000 in
/-- charAt -/
theorem m_J1_charAt_3b067 (g : pw_P) (l : Launch) {w : pw_W} {i : Nat} (hi : i < 2) {x : Int} (hx : 0 ≤ x ∧ x < chN i) : pw_M g l yJ1_charAt_3b067 cJ1_charAt_3b067 2 (some .char) { frames := 2, cells := 0, slots := 0, locals := 43 } [.ref (g.2.2.2 (2 + i)), .int (iZ x)] w (fun r w' => w = w' ∧ r = some (.int (iZ (chZ i x)))) := by
  refine pw_M.of (by decide) (Nat.le_of_ble_eq_true rfl) rfl ?_
  intro p e s m args below meth c C hr hn
  have hb := chN_in i hi
  refine pw_iload_n (i := 1) C dJ1_charAt_3b067_0 rfl rfl ?_
  refine pw_aload_n (i := 0) C dJ1_charAt_3b067_1 rfl rfl (Or.inr ⟨_, rfl⟩) ?_
  refine pw_blen C hi dJ1_charAt_3b067_2 ?_
  refine pw_callS (As := [.int (iZ x), .int (iZ (chN i))]) (st := []) C (m_J0_checkIndex_df160 g l (by omega)) my_J0_checkIndex_df160 ml_J1_9 rfl ⟨by decide, by decide⟩ ⟨Nat.le_of_ble_eq_true rfl, Nat.le_of_ble_eq_true rfl⟩ rfl (Nat.le_of_ble_eq_true rfl) dJ1_charAt_3b067_3 ?_
  rintro _ _ ⟨rfl, rfl⟩
  refine pw_stk (st' := []) rfl ?_
  refine pw_aload_n (i := 0) C dJ1_charAt_3b067_6 rfl rfl (Or.inr ⟨_, rfl⟩) ?_
  refine pw_iload_n (i := 1) C dJ1_charAt_3b067_7 rfl rfl ?_
  refine pw_bald C hi ⟨by omega, by omega⟩ dJ1_charAt_3b067_8 ?_
  have g_1 := chZ_in i x
  refine pw_sipush C dJ1_charAt_3b067_9 (by decide) ?_
  refine pw_iand (z := chZ i x) C dJ1_charAt_3b067_12 (and255 (chZ_in i x)) ?_
  refine pw_i2c (z := chZ i x) C dJ1_charAt_3b067_13 (i2cZ (chZ_in i x)) ?_
  exact pw_zret C hr (char_nar (by have := chZ_in i x; omega)) dJ1_charAt_3b067_14 ⟨rfl, rfl⟩

set_option maxRecDepth 100000 in
set_option maxHeartbeats 4000000 in
/-- charAt -/
theorem m_J0_charAt_5068e (g : pw_P) (l : Launch) {w : pw_W} {i : Nat} (hi : i < 2) {x : Int} (hx : 0 ≤ x ∧ x < chN i) : pw_M g l yJ0_charAt_5068e cJ0_charAt_5068e 2 (some .char) { frames := 3, cells := 0, slots := 0, locals := 64 } [.ref (g.2.2.2 i), .int (iZ x)] w (fun r w' => w = w' ∧ r = some (.int (iZ (chZ i x)))) := by
  refine pw_M.of (by decide) (Nat.le_of_ble_eq_true rfl) rfl ?_
  intro p e s m args below meth c C hr hn
  refine pw_aload_n (i := 0) C dJ0_charAt_5068e_0 rfl rfl (Or.inr ⟨_, rfl⟩) ?_
  refine pw_callV (As := []) (st := []) C (m_J0_isLatin1_aae02 g l hi) my_J0_isLatin1_aae02 ml_J0_492 (pw_rec.str C hi) rfl ⟨by decide, by decide⟩ ⟨Nat.le_of_ble_eq_true rfl, Nat.le_of_ble_eq_true rfl⟩ rfl (Nat.le_of_ble_eq_true rfl) dJ0_charAt_5068e_1 ?_
  rintro _ _ ⟨rfl, rfl⟩
  refine pw_stk (st' := [.int (iZ 1)]) rfl ?_
  refine pw_if_eq (tgt := 16) C (by omega) dJ0_charAt_5068e_4 (by decide) (fun h_1 => ?_) (fun h_1 => ?_)
  · exfalso; omega
  · refine pw_aload_n (i := 0) C dJ0_charAt_5068e_7 rfl rfl (Or.inr ⟨_, rfl⟩) ?_
    refine pw_getO C (C.val hi) fl_J0_9 dJ0_charAt_5068e_8 ?_
    refine pw_iload_n (i := 1) C dJ0_charAt_5068e_11 rfl rfl ?_
    refine pw_callS (As := [.ref (g.2.2.2 (2 + i)), .int (iZ x)]) (st := []) C (m_J1_charAt_3b067 g l hi hx) my_J1_charAt_3b067 ml_J0_495 rfl ⟨by decide, by decide⟩ ⟨Nat.le_of_ble_eq_true rfl, Nat.le_of_ble_eq_true rfl⟩ rfl (Nat.le_of_ble_eq_true rfl) dJ0_charAt_5068e_12 ?_
    rintro _ _ ⟨rfl, rfl⟩
    refine pw_stk (st' := [.int (iZ (chZ i x))]) rfl ?_
    exact pw_zret C hr (char_nar (by have := chZ_in i x; omega)) dJ0_charAt_5068e_15 ⟨rfl, rfl⟩

