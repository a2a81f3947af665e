/-! DIVISIONS of what isn't negative -/
theorem lz_div {a b : Int} (ha : 0 ≤ a ∧ a < 9223372036854775808) (hb : 0 < b ∧ b < 9223372036854775808) : lZ a / lZ b = lZ (a / b) := by
  obtain ⟨m, rfl⟩ := Int.eq_ofNat_of_zero_le ha.1
  obtain ⟨n, rfl⟩ := Int.eq_ofNat_of_zero_le (Int.le_of_lt hb.1)
  have h := pk_lDiv (a := m) (b := n) (by omega) (by omega) (by omega)
  unfold lN at h
  rw [← Int64.ofInt_eq_ofNat, ← Int64.ofInt_eq_ofNat, ← Int64.ofInt_eq_ofNat] at h
  exact h
theorem lz_rem {a b : Int} (ha : 0 ≤ a ∧ a < 9223372036854775808) (hb : 0 < b ∧ b < 9223372036854775808) : lZ a - lZ a / lZ b * lZ b = lZ (a % b) := by
  rw [lz_div ha hb, lz_mul, lz_sub]
  congr 1
  have := Int.emod_def a b
  rw [Int.mul_comm] at this
  exact this.symm
theorem iz_div {a b : Int} (ha : 0 ≤ a ∧ a < 2147483648) (hb : 0 < b ∧ b < 2147483648) : iZ a / iZ b = iZ (a / b) := by
  obtain ⟨m, rfl⟩ := Int.eq_ofNat_of_zero_le ha.1
  obtain ⟨n, rfl⟩ := Int.eq_ofNat_of_zero_le (Int.le_of_lt hb.1)
  have h := pk_div (a := m) (d := n) (by omega) (by omega) (by omega)
  unfold nI at h
  rw [← Int32.ofInt_eq_ofNat, ← Int32.ofInt_eq_ofNat, ← Int32.ofInt_eq_ofNat] at h
  exact h
theorem iz_rem {a b : Int} (ha : 0 ≤ a ∧ a < 2147483648) (hb : 0 < b ∧ b < 2147483648) : iZ a - iZ a / iZ b * iZ b = iZ (a % b) := by
  rw [iz_div ha hb, iz_mul, iz_sub]
  congr 1
  have := Int.emod_def a b
  rw [Int.mul_comm] at this
  exact this.symm
section
variable {g : pw_P} {p : Program} {l : Launch} {e : Env} {R : Room} {s : State} {m : MethodId} {args : Array Value} {below : List Frame} {meth : Method} {c : Code} {cc : ByteArray} {nL : Nat} {own : String} {Q : State → Prop} {cells slots pc : Nat} {lv : List (Nat × Value)} {st : List Value} {w : pw_W} {a b : Int}
theorem lz_ne0 (hb : 0 < b ∧ b < 9223372036854775808) : ¬ lZ b = 0 := fun q => by
  rw [← lz_0] at q
  have := (lz_eq (a := b) (b := 0) ⟨by omega, by omega⟩ ⟨by omega, by omega⟩).mp q
  omega
theorem iz_ne0 (hb : 0 < b ∧ b < 2147483648) : ¬ iZ b = 0 := fun q => by
  rw [← iz_0] at q
  have := (iz_eq (a := b) (b := 0) ⟨by omega, by omega⟩ ⟨by omega, by omega⟩).mp q
  omega
theorem pw_ldiv (C : pw_C g p s m args meth c cc nL own) (ha : 0 ≤ a ∧ a < 9223372036854775808) (hb : 0 < b ∧ b < 9223372036854775808) (hd : decode cc pc = .ok (.ldiv, 1)) (k : pw_G g p l e R s m args below meth c nL Q cells slots (pc + 1) lv (.long (lZ (a / b)) :: st) w) : pw_G g p l e R s m args below meth c nL Q cells slots pc lv (.long (lZ b) :: .long (lZ a) :: st) w :=
  fun ls H locs hl hH hS => lv_ldiv C.1 C.2.1 hd (lz_ne0 hb) (by rw [lz_div ha hb]; exact k ls H locs hl hH hS)
theorem pw_lrem (C : pw_C g p s m args meth c cc nL own) (ha : 0 ≤ a ∧ a < 9223372036854775808) (hb : 0 < b ∧ b < 9223372036854775808) (hd : decode cc pc = .ok (.lrem, 1)) (k : pw_G g p l e R s m args below meth c nL Q cells slots (pc + 1) lv (.long (lZ (a % b)) :: st) w) : pw_G g p l e R s m args below meth c nL Q cells slots pc lv (.long (lZ b) :: .long (lZ a) :: st) w :=
  fun ls H locs hl hH hS => lv_lrem C.1 C.2.1 hd (lz_ne0 hb) (by rw [lz_rem ha hb]; exact k ls H locs hl hH hS)
theorem pw_idiv (C : pw_C g p s m args meth c cc nL own) (ha : 0 ≤ a ∧ a < 2147483648) (hb : 0 < b ∧ b < 2147483648) (hd : decode cc pc = .ok (.idiv, 1)) (k : pw_G g p l e R s m args below meth c nL Q cells slots (pc + 1) lv (.int (iZ (a / b)) :: st) w) : pw_G g p l e R s m args below meth c nL Q cells slots pc lv (.int (iZ b) :: .int (iZ a) :: st) w :=
  fun ls H locs hl hH hS => lv_idiv C.1 C.2.1 hd (iz_ne0 hb) (by rw [iz_div ha hb]; exact k ls H locs hl hH hS)
theorem pw_irem (C : pw_C g p s m args meth c cc nL own) (ha : 0 ≤ a ∧ a < 2147483648) (hb : 0 < b ∧ b < 2147483648) (hd : decode cc pc = .ok (.irem, 1)) (k : pw_G g p l e R s m args below meth c nL Q cells slots (pc + 1) lv (.int (iZ (a % b)) :: st) w) : pw_G g p l e R s m args below meth c nL Q cells slots pc lv (.int (iZ b) :: .int (iZ a) :: st) w :=
  fun ls H locs hl hH hS => lv_irem C.1 C.2.1 hd (iz_ne0 hb) (by rw [iz_rem ha hb]; exact k ls H locs hl hH hS)
end
/-! OUT: the first 2000 of what is told; the rests of the open lists, the innermost first -/
def OutIs (f : Int → Int) (n : Int) (L : List Int) : Prop := n = (if (L.length : Int) < 2000 then (L.length : Int) else 2000) ∧ ∀ j : Nat, (j : Int) < n → L[j]? = some (f (j : Int))
def StkIs (f : Int → Int) : List Int → Prop
  | [] => True
  | r :: rs => f (rs.length : Int) = r ∧ StkIs f rs
theorem StkIs_up {f : Int → Int} {i v : Int} : ∀ (rs : List Int), (rs.length : Int) ≤ i → StkIs f rs → StkIs (upz f i v) rs
  | [], _, _ => trivial
  | r :: rs, h, hs => by
    simp only [List.length_cons] at h
    exact ⟨by rw [upz_ne _ _ (by omega)]; exact hs.1, StkIs_up rs (by omega) hs.2⟩
theorem OutIs.in {f : Int → Int} {n : Int} {L : List Int} (h : OutIs f n L) : 0 ≤ n ∧ n ≤ 2000 := by
  rw [h.1]; split <;> omega
theorem OutIs.put {f : Int → Int} {n c : Int} {L : List Int} (h : OutIs f n L) (hn : n < 2000) : OutIs (upz f n c) (n + 1) (L ++ [c]) := by
  have h1 : n = (L.length : Int) := by have := h.1; split at this <;> omega
  refine ⟨?_, fun j hj => ?_⟩
  · simp only [List.length_append, List.length_singleton]
    split <;> omega
  · by_cases e : (j : Int) = n
    · have : j = L.length := by omega
      rw [this, List.getElem?_append_right (Nat.le_refl _), Nat.sub_self, ← h1, upz_self]; rfl
    · rw [upz_ne _ _ e, List.getElem?_append_left (by omega)]
      exact h.2 j (by omega)
theorem OutIs.full {f : Int → Int} {n : Int} {L : List Int} (h : OutIs f n L) (hn : 2000 ≤ n) (M : List Int) : OutIs f n (L ++ M) := by
  have h1 : (2000 : Int) ≤ L.length := by have := h.1; split at this <;> omega
  refine ⟨?_, fun j hj => ?_⟩
  · have := h.1
    simp only [List.length_append]
    split at this <;> split <;> omega
  · have := h.in
    rw [List.getElem?_append_left (by omega)]
    exact h.2 j hj
/-- the teller at a, its store at b: told so far, and the rests -/
def TO (g : pw_P) (w : pw_W) (a b : Nat) (L rs : List Int) : Prop :=
  ∃ (c d : Nat) (x2 x4 : Int) (f14 f15 : Int → Int), w 13 = (a, some (OB 7 [.ref b, .ref c, .int (iZ x2), .ref d, .int (iZ x4)])) ∧ w 14 = (c, some (AC g 2000 f14)) ∧ w 15 = (d, some (AI g 2000 f15)) ∧ (∀ j, inI (f14 j)) ∧ (∀ j, inI (f15 j)) ∧ OutIs f14 x2 L ∧ x4 = (rs.length : Int) ∧ StkIs f15 rs ∧ rs.length ≤ 2000
abbrev fr13 (w w' : pw_W) : Prop := ∀ k, (k < 13 ∨ 15 < k) → w' k = w k
theorem TO.rec {g : pw_P} {p : Program} {s : State} {m : MethodId} {args : Array Value} {meth : Method} {c : Code} {cc : ByteArray} {nL : Nat} {own : String} {w : pw_W} {a b : Nat} {L rs : List Int} (C : pw_C g p s m args meth c cc nL own) (h : TO g w a b L rs) : pw_rec g s w a RX7 := by
  obtain ⟨c', d, x2, x4, f14, f15, h1, -⟩ := h
  exact pw_rec.of C h1 cl_X7.1

set_option maxRecDepth 100000 in
set_option maxHeartbeats 4000000 in
/-- put -/
theorem to_put (g : pw_P) (l : Launch) {w : pw_W} {a b : Nat} {L rs : List Int} (hT : TO g w a b L rs) {x : Int} (hx : 0 ≤ x ∧ x < 256) : pw_M g l yX7_put cX7_put 2 none { frames := 0, cells := 0, slots := 0, locals := 0 } [.ref a, .int (iZ x)] w (fun r w' => r = none ∧ TO g w' a b (L ++ [x]) rs ∧ fr13 w w') := by
  refine pw_M.of (by decide) (Nat.le_of_ble_eq_true rfl) rfl ?_
  intro p e s m args below meth c C hr hn
  obtain ⟨c1, d1, x2, x4, f14, f15, k1, k2, k3, k4, k5, k6, k7, k8, k9⟩ := id hT
  have k6i := k6.in
  refine pw_aload_n (i := 0) C dX7_put_0 rfl rfl (Or.inr ⟨_, rfl⟩) ?_
  refine pw_get (j := 2) C cl_X7 fl_X7_23 (by decide) rfl k1 rfl dX7_put_1 ?_
  refine pw_sipush C dX7_put_4 (by decide) ?_
  refine pw_icmp_ge (tgt := 30) C (by omega) (by omega) dX7_put_7 (by decide) (fun h_1 => ?_) (fun h_1 => ?_)
  · exact pw_vret C hr dX7_put_30 ⟨rfl, ⟨_, _, _, _, _, _, k1, k2, k3, k4, k5, k6.full (by omega) _, k7, k8, k9⟩, fun _ _ => rfl⟩
  · refine pw_aload_n (i := 0) C dX7_put_10 rfl rfl (Or.inr ⟨_, rfl⟩) ?_
    refine pw_get (j := 1) C cl_X7 fl_X7_9 (by decide) rfl k1 rfl dX7_put_11 ?_
    refine pw_aload_n (i := 0) C dX7_put_14 rfl rfl (Or.inr ⟨_, rfl⟩) ?_
    refine pw_get (j := 2) C cl_X7 fl_X7_23 (by decide) rfl k1 rfl dX7_put_15 ?_
    refine pw_iload_n (i := 1) C dX7_put_18 rfl rfl ?_
    refine pw_cast C k2 ⟨by omega, by omega, by omega⟩ (char_nar (by omega)) dX7_put_19 (fun w_4 k_2 o_3 => ?_)
    refine pw_aload_n (i := 0) C dX7_put_20 rfl rfl (Or.inr ⟨_, rfl⟩) ?_
    refine pw_dup C dX7_put_21 rfl ?_
    have c_5 := (o_3 13 (by decide)).trans k1
    refine pw_get (j := 2) C cl_X7 fl_X7_23 (by decide) rfl c_5 rfl dX7_put_22 ?_
    refine pw_iconst C dX7_put_25 ?_
    refine pw_iadd C dX7_put_26 ?_
    refine pw_put (j := 2) C cl_X7 fl_X7_23 (by decide) rfl rfl rfl rfl rfl c_5 (Nat.le_of_ble_eq_true rfl) dX7_put_27 (fun w_8 k_6 o_7 => ?_)
    have k_9 : w_8 13 = (a, some (OB 7 [.ref b, .ref c1, .int (iZ (x2 + 1)), .ref d1, .int (iZ x4)])) := k_6
    have c_10 := (o_7 14 (by decide)).trans k_2
    have c_11 := ((o_7 15 (by decide)).trans (o_3 15 (by decide))).trans k3
    exact pw_vret C hr dX7_put_30 ⟨rfl, ⟨_, _, _, _, _, _, k_9, c_10, c_11, upz_inI k4 (by omega), k5, k6.put (by omega), k7, k8, k9⟩, fun k hk => (o_7 k (by omega)).trans (o_3 k (by omega))⟩

def uz : Nat → Int
  | 0 => 0
  | j + 1 => 10 ^ j
theorem uz_div : ∀ j : Nat, uz (j + 1) / 10 = uz j
  | 0 => by decide
  | j + 1 => by
    show (10 : Int) ^ (j + 1) / 10 = 10 ^ j
    rw [Int.pow_succ]
    exact Int.mul_ediv_cancel _ (by decide)
theorem uz_in {j : Nat} (h : j ≤ 19) : 0 ≤ uz j ∧ uz j ≤ 1000000000000000000 := by
  have key : ∀ j : Fin 20, 0 ≤ uz j.val ∧ uz j.val ≤ 1000000000000000000 := by decide
  exact key ⟨j, by omega⟩
theorem uz_19 : uz 19 = 1000000000000000000 := by decide +kernel
theorem uz_pos (j : Nat) : 0 < uz (j + 1) := Int.pow_pos (by decide)
theorem uz_one {j : Nat} (h : j ≤ 18) : uz (j + 1) = 1 ↔ j = 0 := by
  have key : ∀ j : Fin 19, uz (j.val + 1) = 1 ↔ j.val = 0 := by decide
  exact key ⟨j, by omega⟩
/-- the digits of a natural, from the j-th on -/
def dgF (m : Int) : Nat → List Int
  | 0 => []
  | j + 1 => (if uz (j + 1) ≤ m ∨ j = 0 then [48 + m / uz (j + 1) % 10] else []) ++ dgF m j
def dgs (m : Int) : List Int := dgF m 19
theorem i2cZ2 {x : Int} (h : 0 ≤ x ∧ x < 256) : ((iZ x).toUInt32 % 65536).toInt32 = iZ x := by
  obtain ⟨n, hn, rfl⟩ : ∃ n : Nat, n < 256 ∧ x = n := ⟨x.toNat, by omega, by omega⟩
  have key : ∀ n : Fin 256, ((iZ (n.val : Int)).toUInt32 % 65536).toInt32 = iZ (n.val : Int) := by decide +kernel
  exact key ⟨n, hn⟩
set_option maxRecDepth 100000 in
set_option maxHeartbeats 4000000 in
/-- putNatural -/
theorem m_X7_putNatural (g : pw_P) (l : Launch) {w : pw_W} {a b : Nat} {L rs : List Int} (hT : TO g w a b L rs) {v : Int} (hm : 0 ≤ v ∧ v < 4611686018427387904) : pw_M g l yX7_putNatural cX7_putNatural 5 none { frames := 1, cells := 0, slots := 0, locals := 21 } [.ref a, .long (lZ v)] w (fun r w' => r = none ∧ TO g w' a b (L ++ dgs v) rs ∧ fr13 w w') := by
  refine pw_M.of (by decide) (Nat.le_of_ble_eq_true rfl) rfl ?_
  intro p e s m args below meth c C hr hn
  have loop : ∀ (j : Nat) (q : List Int) (w1 : pw_W) (u : Int), j ≤ 19 → u = uz j → TO g w1 a b (L ++ q) rs → q ++ dgF v j = dgs v → fr13 w w1 → pw_G g p l e { frames := 1, cells := 0, slots := 0, locals := 21 } s m args below meth c 5 (pw_Q g below (fun r w' => r = none ∧ TO g w' a b (L ++ dgs v) rs ∧ fr13 w w') args s { frames := 1, cells := 0, slots := 0, locals := 21 }) 0 0 4 [(0, .ref a), (1, .long (lZ v)), (3, .long (lZ u))] [] w1 := by
    intro j
    induction j with
    | zero =>
      intro q w1 u hj hu hT1 hp hf1
      have hu0 : u = 0 := hu
      refine pw_lload_n (i := 3) C dX7_putNatural_4 rfl rfl ?_
      refine pw_lconst (z := 0) C dX7_putNatural_5 (by decide) ?_
      refine pw_lcmp C (by omega) (by omega) dX7_putNatural_6 ?_
      refine pw_if_le (tgt := 48) C (cmpZ_in _ _) dX7_putNatural_7 (by decide) (fun h_1 => ?_) (fun h_1 => ?_)
      · have h_1 := cmpZ_le1 h_1
        exact pw_vret C hr dX7_putNatural_48 ⟨rfl, by rw [← hp, dgF, List.append_nil]; exact hT1, hf1⟩
      · have h_1 := cmpZ_gt1 h_1
        exfalso; omega
    | succ j ih =>
      intro q w1 u hj hu hT1 hp hf1
      have hui := uz_in hj
      have hu1 := uz_pos j
      have hu2 := uz_one (j := j) (by omega)
      have hq0 : 0 ≤ v / u := Int.ediv_nonneg hm.1 (by omega)
      have hq1 : v / u ≤ v := Int.ediv_le_self _ hm.1
      refine pw_lload_n (i := 3) C dX7_putNatural_4 rfl rfl ?_
      refine pw_lconst (z := 0) C dX7_putNatural_5 (by decide) ?_
      refine pw_lcmp C (by omega) (by omega) dX7_putNatural_6 ?_
      refine pw_if_le (tgt := 48) C (cmpZ_in _ _) dX7_putNatural_7 (by decide) (fun h_101 => ?_) (fun h_101 => ?_)
      · have h_101 := cmpZ_le1 h_101
        exfalso; omega
      · have h_101 := cmpZ_gt1 h_101
        refine pw_lload_n (i := 1) C dX7_putNatural_10 rfl rfl ?_
        refine pw_lload_n (i := 3) C dX7_putNatural_11 rfl rfl ?_
        refine pw_lcmp C (by omega) (by omega) dX7_putNatural_12 ?_
        refine pw_if_ge (tgt := 22) C (cmpZ_in _ _) dX7_putNatural_13 (by decide) (fun h_102 => ?_) (fun h_102 => ?_)
        · have h_102 := cmpZ_ge1 h_102
          refine pw_aload_n (i := 0) C dX7_putNatural_22 rfl rfl (Or.inr ⟨_, rfl⟩) ?_
          refine pw_ldc2 (z := 48) C kj_X7_86 (by decide) dX7_putNatural_23 ?_
          refine pw_lload_n (i := 1) C dX7_putNatural_26 rfl rfl ?_
          refine pw_lload_n (i := 3) C dX7_putNatural_27 rfl rfl ?_
          refine pw_ldiv C ⟨by omega, by omega⟩ ⟨by omega, by omega⟩ dX7_putNatural_28 ?_
          refine pw_ldc2 (z := 10) C kj_X7_88 (by decide) dX7_putNatural_29 ?_
          refine pw_lrem C ⟨by omega, by omega⟩ ⟨by omega, by omega⟩ dX7_putNatural_32 ?_
          refine pw_ladd C dX7_putNatural_33 ?_
          refine pw_l2i C dX7_putNatural_34 ?_
          refine pw_i2c (z := (48 + ((v / u) % 10))) C dX7_putNatural_35 (i2cZ2 (by omega)) ?_
          refine pw_callV (As := [.int (iZ (48 + ((v / u) % 10)))]) (st := []) C (to_put g l hT1 (by omega)) my_X7_put ml_X7_40 (hT1.rec C) rfl ⟨by decide, by decide⟩ ⟨Nat.le_of_ble_eq_true rfl, Nat.le_of_ble_eq_true rfl⟩ rfl (Nat.le_of_ble_eq_true rfl) dX7_putNatural_36 ?_
          rintro _ w_103 ⟨rfl, T_104, o_105⟩
          refine pw_stk (st' := []) rfl ?_
          refine pw_lload_n (i := 3) C dX7_putNatural_39 rfl rfl ?_
          refine pw_ldc2 (z := 10) C kj_X7_88 (by decide) dX7_putNatural_40 ?_
          refine pw_ldiv C ⟨by omega, by omega⟩ ⟨by omega, by omega⟩ dX7_putNatural_43 ?_
          refine pw_lstore_n (i := 3) (lv' := [(0, .ref a), (1, .long (lZ v)), (3, .long (lZ (u / 10)))]) C dX7_putNatural_44 rfl (by decide) rfl ?_
          refine pw_goto (tgt := 4) C dX7_putNatural_45 (by decide) ?_
          exact ih (q ++ [(48 + ((v / u) % 10))]) w_103 (u / 10) (by omega) (by rw [hu]; exact uz_div j) (by rw [← List.append_assoc]; exact T_104) (by rw [← hp, dgF, if_pos (by omega), hu, List.append_assoc]) (fun k hk => ((o_105 k hk)).trans (hf1 k hk))
        · have h_102 := cmpZ_lt1 h_102
          refine pw_lload_n (i := 3) C dX7_putNatural_16 rfl rfl ?_
          refine pw_lconst (z := 1) C dX7_putNatural_17 (by decide) ?_
          refine pw_lcmp C (by omega) (by omega) dX7_putNatural_18 ?_
          refine pw_if_ne (tgt := 39) C (cmpZ_in _ _) dX7_putNatural_19 (by decide) (fun h_106 => ?_) (fun h_106 => ?_)
          · have h_106 := cmpZ_ne1 h_106
            refine pw_lload_n (i := 3) C dX7_putNatural_39 rfl rfl ?_
            refine pw_ldc2 (z := 10) C kj_X7_88 (by decide) dX7_putNatural_40 ?_
            refine pw_ldiv C ⟨by omega, by omega⟩ ⟨by omega, by omega⟩ dX7_putNatural_43 ?_
            refine pw_lstore_n (i := 3) (lv' := [(0, .ref a), (1, .long (lZ v)), (3, .long (lZ (u / 10)))]) C dX7_putNatural_44 rfl (by decide) rfl ?_
            refine pw_goto (tgt := 4) C dX7_putNatural_45 (by decide) ?_
            exact ih q w1 (u / 10) (by omega) (by rw [hu]; exact uz_div j) hT1 (by rw [← hp, dgF, if_neg (by omega), List.nil_append]) hf1
          · have h_106 := cmpZ_eq1 h_106
            refine pw_aload_n (i := 0) C dX7_putNatural_22 rfl rfl (Or.inr ⟨_, rfl⟩) ?_
            refine pw_ldc2 (z := 48) C kj_X7_86 (by decide) dX7_putNatural_23 ?_
            refine pw_lload_n (i := 1) C dX7_putNatural_26 rfl rfl ?_
            refine pw_lload_n (i := 3) C dX7_putNatural_27 rfl rfl ?_
            refine pw_ldiv C ⟨by omega, by omega⟩ ⟨by omega, by omega⟩ dX7_putNatural_28 ?_
            refine pw_ldc2 (z := 10) C kj_X7_88 (by decide) dX7_putNatural_29 ?_
            refine pw_lrem C ⟨by omega, by omega⟩ ⟨by omega, by omega⟩ dX7_putNatural_32 ?_
            refine pw_ladd C dX7_putNatural_33 ?_
            refine pw_l2i C dX7_putNatural_34 ?_
            refine pw_i2c (z := (48 + ((v / u) % 10))) C dX7_putNatural_35 (i2cZ2 (by omega)) ?_
            refine pw_callV (As := [.int (iZ (48 + ((v / u) % 10)))]) (st := []) C (to_put g l hT1 (by omega)) my_X7_put ml_X7_40 (hT1.rec C) rfl ⟨by decide, by decide⟩ ⟨Nat.le_of_ble_eq_true rfl, Nat.le_of_ble_eq_true rfl⟩ rfl (Nat.le_of_ble_eq_true rfl) dX7_putNatural_36 ?_
            rintro _ w_107 ⟨rfl, T_108, o_109⟩
            refine pw_stk (st' := []) rfl ?_
            refine pw_lload_n (i := 3) C dX7_putNatural_39 rfl rfl ?_
            refine pw_ldc2 (z := 10) C kj_X7_88 (by decide) dX7_putNatural_40 ?_
            refine pw_ldiv C ⟨by omega, by omega⟩ ⟨by omega, by omega⟩ dX7_putNatural_43 ?_
            refine pw_lstore_n (i := 3) (lv' := [(0, .ref a), (1, .long (lZ v)), (3, .long (lZ (u / 10)))]) C dX7_putNatural_44 rfl (by decide) rfl ?_
            refine pw_goto (tgt := 4) C dX7_putNatural_45 (by decide) ?_
            exact ih (q ++ [(48 + ((v / u) % 10))]) w_107 (u / 10) (by omega) (by rw [hu]; exact uz_div j) (by rw [← List.append_assoc]; exact T_108) (by rw [← hp, dgF, if_pos (by omega), hu, List.append_assoc]) (fun k hk => ((o_109 k hk)).trans (hf1 k hk))
  refine pw_ldc2 (z := 1000000000000000000) C kj_X7_84 (by decide) dX7_putNatural_0 ?_
  refine pw_lstore_n (i := 3) (lv' := [(0, .ref a), (1, .long (lZ v)), (3, .long (lZ 1000000000000000000))]) C dX7_putNatural_3 rfl (by decide) rfl ?_
  exact loop 19 [] w _ (Nat.le_refl 19) uz_19.symm (by rw [List.append_nil]; exact hT) (show [] ++ dgF v 19 = dgF v 19 from List.nil_append _) (fun _ _ => rfl)

def us : Nat → Int
  | 0 => 0
  | j + 1 => 47 ^ j
theorem us_div : ∀ j : Nat, us (j + 1) / 47 = us j
  | 0 => by decide
  | j + 1 => by
    show (47 : Int) ^ (j + 1) / 47 = 47 ^ j
    rw [Int.pow_succ]
    exact Int.mul_ediv_cancel _ (by decide)
theorem us_in {j : Nat} (h : j ≤ 11) : 0 ≤ us j ∧ us j ≤ 52599132235830049 := by
  have key : ∀ j : Fin 12, 0 ≤ us j.val ∧ us j.val ≤ 52599132235830049 := by decide +kernel
  exact key ⟨j, by omega⟩
theorem us_11 : us 11 = 52599132235830049 := by decide +kernel
theorem us_pos (j : Nat) : 0 < us (j + 1) := Int.pow_pos (by decide)
/-- the letters of a symbol, from the j-th on -/
def spF (v : Int) : Nat → List Int
  | 0 => []
  | j + 1 => (if us (j + 1) ≤ v then [chZ 1 (v / us (j + 1) % 47)] else []) ++ spF v j
def lts (v : Int) : List Int := spF v 11
set_option maxRecDepth 100000 in
set_option maxHeartbeats 4000000 in
/-- putSymbol -/
theorem m_X7_putSymbol (g : pw_P) (l : Launch) {w : pw_W} {a b : Nat} {L rs : List Int} (hT : TO g w a b L rs) {v : Int} (hm : 0 ≤ v ∧ v < 4611686018427387904) : pw_M g l yX7_putSymbol cX7_putSymbol 5 none { frames := 4, cells := 0, slots := 0, locals := 85 } [.ref a, .long (lZ v)] w (fun r w' => r = none ∧ TO g w' a b (L ++ lts v) rs ∧ fr13 w w') := by
  refine pw_M.of (by decide) (Nat.le_of_ble_eq_true rfl) rfl ?_
  intro p e s m args below meth c C hr hn
  have loop : ∀ (j : Nat) (q : List Int) (w1 : pw_W) (u : Int), j ≤ 11 → u = us j → TO g w1 a b (L ++ q) rs → q ++ spF v j = lts v → fr13 w w1 → pw_G g p l e { frames := 4, cells := 0, slots := 0, locals := 85 } s m args below meth c 5 (pw_Q g below (fun r w' => r = none ∧ TO g w' a b (L ++ lts v) rs ∧ fr13 w w') args s { frames := 4, cells := 0, slots := 0, locals := 85 }) 0 0 4 [(0, .ref a), (1, .long (lZ v)), (3, .long (lZ u))] [] w1 := by
    intro j
    induction j with
    | zero =>
      intro q w1 u hj hu hT1 hp hf1
      have hu0 : u = 0 := hu
      refine pw_lload_n (i := 3) C dX7_putSymbol_4 rfl rfl ?_
      refine pw_lconst (z := 0) C dX7_putSymbol_5 (by decide) ?_
      refine pw_lcmp C (by omega) (by omega) dX7_putSymbol_6 ?_
      refine pw_if_le (tgt := 42) C (cmpZ_in _ _) dX7_putSymbol_7 (by decide) (fun h_1 => ?_) (fun h_1 => ?_)
      · have h_1 := cmpZ_le1 h_1
        exact pw_vret C hr dX7_putSymbol_42 ⟨rfl, by rw [← hp, spF, List.append_nil]; exact hT1, hf1⟩
      · have h_1 := cmpZ_gt1 h_1
        exfalso; omega
    | succ j ih =>
      intro q w1 u hj hu hT1 hp hf1
      have hui := us_in hj
      have hu1 := us_pos j
      have hq0 : 0 ≤ v / u := Int.ediv_nonneg hm.1 (by omega)
      have hq1 : v / u ≤ v := Int.ediv_le_self _ hm.1
      refine pw_lload_n (i := 3) C dX7_putSymbol_4 rfl rfl ?_
      refine pw_lconst (z := 0) C dX7_putSymbol_5 (by decide) ?_
      refine pw_lcmp C (by omega) (by omega) dX7_putSymbol_6 ?_
      refine pw_if_le (tgt := 42) C (cmpZ_in _ _) dX7_putSymbol_7 (by decide) (fun h_101 => ?_) (fun h_101 => ?_)
      · have h_101 := cmpZ_le1 h_101
        exfalso; omega
      · have h_101 := cmpZ_gt1 h_101
        refine pw_lload_n (i := 1) C dX7_putSymbol_10 rfl rfl ?_
        refine pw_lload_n (i := 3) C dX7_putSymbol_11 rfl rfl ?_
        refine pw_lcmp C (by omega) (by omega) dX7_putSymbol_12 ?_
        refine pw_if_lt (tgt := 33) C (cmpZ_in _ _) dX7_putSymbol_13 (by decide) (fun h_102 => ?_) (fun h_102 => ?_)
        · have h_102 := cmpZ_lt1 h_102
          refine pw_lload_n (i := 3) C dX7_putSymbol_33 rfl rfl ?_
          refine pw_ldc2 (z := 47) C kj_X7_94 (by decide) dX7_putSymbol_34 ?_
          refine pw_ldiv C ⟨by omega, by omega⟩ ⟨by omega, by omega⟩ dX7_putSymbol_37 ?_
          refine pw_lstore_n (i := 3) (lv' := [(0, .ref a), (1, .long (lZ v)), (3, .long (lZ (u / 47)))]) C dX7_putSymbol_38 rfl (by decide) rfl ?_
          refine pw_goto (tgt := 4) C dX7_putSymbol_39 (by decide) ?_
          exact ih q w1 (u / 47) (by omega) (by rw [hu]; exact us_div j) hT1 (by rw [← hp, spF, if_neg (by omega), List.nil_append]) hf1
        · have h_102 := cmpZ_ge1 h_102
          refine pw_aload_n (i := 0) C dX7_putSymbol_16 rfl rfl (Or.inr ⟨_, rfl⟩) ?_
          refine pw_ldcS C C.str92 dX7_putSymbol_17 ?_
          refine pw_lload_n (i := 1) C dX7_putSymbol_19 rfl rfl ?_
          refine pw_lload_n (i := 3) C dX7_putSymbol_20 rfl rfl ?_
          refine pw_ldiv C ⟨by omega, by omega⟩ ⟨by omega, by omega⟩ dX7_putSymbol_21 ?_
          refine pw_ldc2 (z := 47) C kj_X7_94 (by decide) dX7_putSymbol_22 ?_
          refine pw_lrem C ⟨by omega, by omega⟩ ⟨by omega, by omega⟩ dX7_putSymbol_25 ?_
          refine pw_l2i C dX7_putSymbol_26 ?_
          refine pw_callV (As := [.int (iZ ((v / u) % 47))]) (st := [.ref a]) C (m_J0_charAt_5068e g l (i := 1) (by decide) (x := ((v / u) % 47)) (by have : chN 1 = 47 := rfl; omega)) my_J0_charAt_5068e ml_X7_96 (pw_rec.str C (by decide)) rfl ⟨by decide, by decide⟩ ⟨Nat.le_of_ble_eq_true rfl, Nat.le_of_ble_eq_true rfl⟩ rfl (Nat.le_of_ble_eq_true rfl) dX7_putSymbol_27 ?_
          rintro _ _ ⟨rfl, rfl⟩
          refine pw_stk (st' := [.int (iZ (chZ 1 ((v / u) % 47))), .ref a]) rfl ?_
          have g_103 := chZ_in 1 ((v / u) % 47)
          refine pw_callV (As := [.int (iZ (chZ 1 ((v / u) % 47)))]) (st := []) C (to_put g l hT1 (by omega)) my_X7_put ml_X7_40 (hT1.rec C) rfl ⟨by decide, by decide⟩ ⟨Nat.le_of_ble_eq_true rfl, Nat.le_of_ble_eq_true rfl⟩ rfl (Nat.le_of_ble_eq_true rfl) dX7_putSymbol_30 ?_
          rintro _ w_104 ⟨rfl, T_105, o_106⟩
          refine pw_stk (st' := []) rfl ?_
          refine pw_lload_n (i := 3) C dX7_putSymbol_33 rfl rfl ?_
          refine pw_ldc2 (z := 47) C kj_X7_94 (by decide) dX7_putSymbol_34 ?_
          refine pw_ldiv C ⟨by omega, by omega⟩ ⟨by omega, by omega⟩ dX7_putSymbol_37 ?_
          refine pw_lstore_n (i := 3) (lv' := [(0, .ref a), (1, .long (lZ v)), (3, .long (lZ (u / 47)))]) C dX7_putSymbol_38 rfl (by decide) rfl ?_
          refine pw_goto (tgt := 4) C dX7_putSymbol_39 (by decide) ?_
          exact ih (q ++ [chZ 1 ((v / u) % 47)]) w_104 (u / 47) (by omega) (by rw [hu]; exact us_div j) (by rw [← List.append_assoc]; exact T_105) (by rw [← hp, spF, if_pos (by omega), hu, List.append_assoc]) (fun k hk => ((o_106 k hk)).trans (hf1 k hk))
  refine pw_ldc2 (z := 52599132235830049) C kj_X7_90 (by decide) dX7_putSymbol_0 ?_
  refine pw_lstore_n (i := 3) (lv' := [(0, .ref a), (1, .long (lZ v)), (3, .long (lZ 52599132235830049))]) C dX7_putSymbol_3 rfl (by decide) rfl ?_
  exact loop 11 [] w _ (Nat.le_refl 11) us_11.symm (by rw [List.append_nil]; exact hT) (show [] ++ spF v 11 = spF v 11 from List.nil_append _) (fun _ _ => rfl)

/-- what an atom is told as -/
def atx : Ob → List Int
  | .arg m => dgs (m : Int)
  | .index k => lts (k : Int)
  | _ => []
/-- numbers of naturals and symbols are small enough -/
def obOk : Ob → Prop
  | .arg m => m < 4611686018427387904
  | .index k => k < 4611686018427387904
  | .add a b => obOk a ∧ obOk b
  | _ => False
/-- told, told as what is left of a list, and its first one told -/
def otx : Ob → List Int × List Int × List Int
  | .add a b => (if obQ (.add a b) then 39 :: (otx b).2.2 else 40 :: ((otx a).1 ++ (otx b).2.1), 32 :: ((otx a).1 ++ (otx b).2.1), (otx a).1)
  | x => (atx x, (if x = oNil then [41] else [32, 46, 32] ++ atx x ++ [41]), [])
/-- all objects of the store are such -/
def tOk (t : Int → Ob) (n : Int) : Prop := ∀ i, 0 ≤ i → i < n → obOk (t i)
/-- the store at b, with its trees, while nothing of it changes -/
def SB (g : pw_P) (w : pw_W) (b cap : Nat) (t : Int → Ob) (n : Int) : Prop := (w 2).1 = b ∧ SW g w cap t n ∧ tOk t n
theorem SB.same {g : pw_P} {w w' : pw_W} {b cap : Nat} {t : Int → Ob} {n : Int} (h : SB g w b cap t n) (hf : ∀ k, 2 ≤ k → k ≤ 7 → w' k = w k) : SB g w' b cap t n := by
  obtain ⟨h1, ⟨σ, h2, h3⟩, h4⟩ := h
  have e2 := hf 2 (by decide) (by decide)
  have e3 := hf 3 (by decide) (by decide)
  have e4 := hf 4 (by decide) (by decide)
  have e5 := hf 5 (by decide) (by decide)
  have e6 := hf 6 (by decide) (by decide)
  have e7 := hf 7 (by decide) (by decide)
  refine ⟨by rw [e2]; exact h1, ⟨σ, ?_, h3⟩, h4⟩
  unfold St at h2 ⊢
  rw [e2, e3, e4, e5, e6, e7]
  exact h2
theorem SB.rec {g : pw_P} {p : Program} {s : State} {m : MethodId} {args : Array Value} {meth : Method} {c : Code} {cc : ByteArray} {nL : Nat} {own : String} {w : pw_W} {b cap : Nat} {t : Int → Ob} {n : Int} (C : pw_C g p s m args meth c cc nL own) (h : SB g w b cap t n) : pw_rec g s w b RX6 := by
  obtain ⟨rfl, ⟨σ, h2, -⟩, -⟩ := h
  exact pw_rec.of C h2.1 cl_X6.1
theorem SB.n {g : pw_P} {w : pw_W} {b cap : Nat} {t : Int → Ob} {n : Int} (h : SB g w b cap t n) : 24 ≤ n ∧ n ≤ cap ∧ cap ≤ 16384 := by
  obtain ⟨-, ⟨σ, h2, -, h3⟩, -⟩ := h
  exact ⟨h3.2.2.1, h2.rN.2.1, h2.rN.2.2⟩
