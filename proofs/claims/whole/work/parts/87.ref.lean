theorem iz_shrZ {a y : Int} (ha : inI a) (hy : y = 24 ∨ y = 16 ∨ y = 8 ∨ y = 0) : (iZ a >>> (iZ y &&& 31)) = iZ (a / ((2 ^ y.toNat : Nat) : Int)) := by
  rcases hy with rfl | rfl | rfl | rfl
  · exact iz_shr ha (s := 24) (Or.inl rfl)
  · exact iz_shr ha (s := 16) (Or.inr (Or.inl rfl))
  · exact iz_shr ha (s := 8) (Or.inr (Or.inr (Or.inl rfl)))
  · exact iz_shr ha (s := 0) (Or.inr (Or.inr (Or.inr rfl)))
theorem byB_sZ {a y : Int} (hy : y = 24 ∨ y = 16 ∨ y = 8 ∨ y = 0) : a / ((2 ^ y.toNat : Nat) : Int) % 256 = byB a y.toNat := by
  rcases hy with rfl | rfl | rfl | rfl
  · exact byB_s (s := 24) (Or.inl rfl)
  · exact byB_s (s := 16) (Or.inr (Or.inl rfl))
  · exact byB_s (s := 8) (Or.inr (Or.inr (Or.inl rfl)))
  · exact byB_s (s := 0) (Or.inr (Or.inr (Or.inr rfl)))
theorem byB_I (a : Int) (s : Nat) : inI (byB a s) := by have := byB_in a s; exact ⟨by omega, by omega⟩
def ar5 (a b c d e : Int) (q : Int) : Int := if q = 0 then a else if q = 1 then b else if q = 2 then c else if q = 3 then d else e
set_option maxRecDepth 100000 in
set_option maxHeartbeats 4000000 in
/-- X10_steps -/
theorem m_X10_steps (g : pw_P) (l : Launch) {w : pw_W} {b : Nat} {B : Nat → Nat} {x : Nat → Int} (h0 : w 1000 = (b, some (mdE B x))) : pw_M g l yX10_steps cX10_steps 1 (some .int) { frames := 0, cells := 0, slots := 0, locals := 0 } [.ref b] w (fun r w' => w = w' ∧ r = some (.int (iZ (x 40)))) := by
  refine pw_M.of (by decide) (Nat.le_of_ble_eq_true rfl) rfl ?_
  intro p e s m args below meth c C hr hn
  refine pw_aload_n (i := 0) C dX10_steps_0 rfl rfl (Or.inr ⟨_, rfl⟩) ?_
  refine pw_get (j := 40) C cl_X10 fl_X10_380 (by decide) rfl h0 rfl dX10_steps_1 ?_
  refine pw_stk (st' := [.int (iZ (x 40))]) rfl ?_
  exact pw_iret C hr dX10_steps_4 ⟨rfl, rfl⟩

set_option maxRecDepth 100000 in
set_option maxHeartbeats 4000000 in
/-- X10_functions -/
theorem m_X10_functions (g : pw_P) (l : Launch) {w : pw_W} {b : Nat} {B : Nat → Nat} {x : Nat → Int} (h0 : w 1000 = (b, some (mdE B x))) : pw_M g l yX10_functions cX10_functions 1 (some .int) { frames := 0, cells := 0, slots := 0, locals := 0 } [.ref b] w (fun r w' => w = w' ∧ r = some (.int (iZ (x 32)))) := by
  refine pw_M.of (by decide) (Nat.le_of_ble_eq_true rfl) rfl ?_
  intro p e s m args below meth c C hr hn
  refine pw_aload_n (i := 0) C dX10_functions_0 rfl rfl (Or.inr ⟨_, rfl⟩) ?_
  refine pw_get (j := 32) C cl_X10 fl_X10_295 (by decide) rfl h0 rfl dX10_functions_1 ?_
  refine pw_stk (st' := [.int (iZ (x 32))]) rfl ?_
  exact pw_iret C hr dX10_functions_4 ⟨rfl, rfl⟩

set_option maxRecDepth 100000 in
set_option maxHeartbeats 4000000 in
/-- X10_size -/
theorem m_X10_size (g : pw_P) (l : Launch) {w : pw_W} {b : Nat} {B : Nat → Nat} {x : Nat → Int} (h0 : w 1000 = (b, some (mdE B x))) : pw_M g l yX10_size cX10_size 1 (some .int) { frames := 0, cells := 0, slots := 0, locals := 0 } [.ref b] w (fun r w' => w = w' ∧ r = some (.int (iZ (x 15)))) := by
  refine pw_M.of (by decide) (Nat.le_of_ble_eq_true rfl) rfl ?_
  intro p e s m args below meth c C hr hn
  refine pw_aload_n (i := 0) C dX10_size_0 rfl rfl (Or.inr ⟨_, rfl⟩) ?_
  refine pw_get (j := 15) C cl_X10 fl_X10_265 (by decide) rfl h0 rfl dX10_size_1 ?_
  refine pw_stk (st' := [.int (iZ (x 15))]) rfl ?_
  exact pw_iret C hr dX10_size_4 ⟨rfl, rfl⟩

set_option maxRecDepth 100000 in
set_option maxHeartbeats 4000000 in
/-- X10_fault -/
theorem m_X10_fault (g : pw_P) (l : Launch) {w : pw_W} {b : Nat} {B : Nat → Nat} {x : Nat → Int} (h0 : w 1000 = (b, some (mdE B x))) {y : Int} (hy : inI y) : pw_M g l yX10_fault cX10_fault 2 (some .int) { frames := 0, cells := 0, slots := 0, locals := 0 } [.ref b, .int (iZ y)] w (fun r w' => w = w' ∧ r = some (.int (iZ (if y = 0 then x 21 else if y = 1 then x 22 else if y = 2 then x 41 else -1)))) := by
  refine pw_M.of (by decide) (Nat.le_of_ble_eq_true rfl) rfl ?_
  intro p e s m args below meth c C hr hn
  refine pw_iload_n (i := 1) C dX10_fault_0 rfl rfl ?_
  refine pw_if_ne (tgt := 11) C (by omega) dX10_fault_1 (by decide) (fun h_1 => ?_) (fun h_1 => ?_)
  · refine pw_iload_n (i := 1) C dX10_fault_11 rfl rfl ?_
    refine pw_iconst C dX10_fault_12 ?_
    refine pw_icmp_ne (tgt := 23) C (by omega) (by omega) dX10_fault_13 (by decide) (fun h_2 => ?_) (fun h_2 => ?_)
    · refine pw_iload_n (i := 1) C dX10_fault_23 rfl rfl ?_
      refine pw_iconst C dX10_fault_24 ?_
      refine pw_icmp_ne (tgt := 35) C (by omega) (by omega) dX10_fault_25 (by decide) (fun h_3 => ?_) (fun h_3 => ?_)
      · refine pw_iconst C dX10_fault_35 ?_
        exact pw_iret C hr dX10_fault_36 ⟨rfl, by rw [if_neg (by omega), if_neg (by omega), if_neg (by omega)]⟩
      · refine pw_aload_n (i := 0) C dX10_fault_28 rfl rfl (Or.inr ⟨_, rfl⟩) ?_
        refine pw_get (j := 41) C cl_X10 fl_X10_301 (by decide) rfl h0 rfl dX10_fault_29 ?_
        refine pw_stk (st' := [.int (iZ (x 41))]) rfl ?_
        refine pw_goto (tgt := 36) C dX10_fault_32 (by decide) ?_
        exact pw_iret C hr dX10_fault_36 ⟨rfl, by rw [if_neg (by omega), if_neg (by omega), if_pos (by omega)]⟩
    · refine pw_aload_n (i := 0) C dX10_fault_16 rfl rfl (Or.inr ⟨_, rfl⟩) ?_
      refine pw_get (j := 22) C cl_X10 fl_X10_55 (by decide) rfl h0 rfl dX10_fault_17 ?_
      refine pw_stk (st' := [.int (iZ (x 22))]) rfl ?_
      refine pw_goto (tgt := 36) C dX10_fault_20 (by decide) ?_
      exact pw_iret C hr dX10_fault_36 ⟨rfl, by rw [if_neg (by omega), if_pos (by omega)]⟩
  · refine pw_aload_n (i := 0) C dX10_fault_4 rfl rfl (Or.inr ⟨_, rfl⟩) ?_
    refine pw_get (j := 21) C cl_X10 fl_X10_207 (by decide) rfl h0 rfl dX10_fault_5 ?_
    refine pw_stk (st' := [.int (iZ (x 21))]) rfl ?_
    refine pw_goto (tgt := 36) C dX10_fault_8 (by decide) ?_
    exact pw_iret C hr dX10_fault_36 ⟨rfl, by rw [if_pos (by omega)]⟩

set_option maxRecDepth 100000 in
set_option maxHeartbeats 4000000 in
/-- X10_fuel -/
theorem m_X10_fuel (g : pw_P) (l : Launch) {w : pw_W} {b : Nat} {B : Nat → Nat} {x : Nat → Int} (h0 : w 1000 = (b, some (mdE B x))) {y : Int} (hy : inI y) : pw_M g l yX10_fuel cX10_fuel 3 (some .int) { frames := 0, cells := 0, slots := 0, locals := 0 } [.ref b, .int (iZ y)] w (fun r w' => r = some (.int (iZ (if 1 ≤ y ∧ y ≤ 1000 then x 39 else -1))) ∧ w' 1000 = (b, some (mdE B (va_up x 39 (if 1 ≤ y ∧ y ≤ 1000 then y else x 39)))) ∧ ∀ k, k ≠ 1000 → w' k = w k) := by
  refine pw_M.of (by decide) (Nat.le_of_ble_eq_true rfl) rfl ?_
  intro p e s m args below meth c C hr hn
  refine pw_iload_n (i := 1) C dX10_fuel_0 rfl rfl ?_
  refine pw_iconst C dX10_fuel_1 ?_
  refine pw_icmp_lt (tgt := 12) C (by omega) (by omega) dX10_fuel_2 (by decide) (fun h_1 => ?_) (fun h_1 => ?_)
  · refine pw_iconst C dX10_fuel_12 ?_
    exact pw_iret C hr dX10_fuel_13 ⟨by rw [if_neg (by omega)], by rw [if_neg (by omega)]; exact h0, fun _ _ => rfl⟩
  · refine pw_iload_n (i := 1) C dX10_fuel_5 rfl rfl ?_
    refine pw_sipush C dX10_fuel_6 (by decide) ?_
    refine pw_icmp_le (tgt := 14) C (by omega) (by omega) dX10_fuel_9 (by decide) (fun h_2 => ?_) (fun h_2 => ?_)
    · refine pw_aload_n (i := 0) C dX10_fuel_14 rfl rfl (Or.inr ⟨_, rfl⟩) ?_
      refine pw_get (j := 39) C cl_X10 fl_X10_89 (by decide) rfl h0 rfl dX10_fuel_15 ?_
      refine pw_stk (st' := [.int (iZ (x 39))]) rfl ?_
      refine pw_istore_n (i := 2) (lv' := [(0, .ref b), (1, .int (iZ y)), (2, .int (iZ (x 39)))]) C dX10_fuel_18 rfl (by decide) rfl ?_
      refine pw_aload_n (i := 0) C dX10_fuel_19 rfl rfl (Or.inr ⟨_, rfl⟩) ?_
      refine pw_iload_n (i := 1) C dX10_fuel_20 rfl rfl ?_
      refine pw_put (j := 39) C cl_X10 fl_X10_89 (by decide) rfl rfl rfl rfl rfl h0 (Nat.le_of_ble_eq_true rfl) dX10_fuel_21 (fun w_5 k_3 o_4 => ?_)
      have k_6 : w_5 1000 = (b, some (mdE B (va_up x 39 y))) := k_3
      refine pw_iload_n (i := 2) C dX10_fuel_24 rfl rfl ?_
      exact pw_iret C hr dX10_fuel_25 ⟨by rw [if_pos (by omega)], by rw [if_pos (by omega)]; exact k_6, fun k hk => (o_4 k hk)⟩
    · refine pw_iconst C dX10_fuel_12 ?_
      exact pw_iret C hr dX10_fuel_13 ⟨by rw [if_neg (by omega)], by rw [if_neg (by omega)]; exact h0, fun _ _ => rfl⟩

set_option maxRecDepth 100000 in
set_option maxHeartbeats 4000000 in
/-- X10_letter -/
theorem m_X10_letter (g : pw_P) (l : Launch) {w : pw_W} {b : Nat} {B : Nat → Nat} {x : Nat → Int} (h0 : w 1000 = (b, some (mdE B x))) {k v : Int} {L : List Int} (hk : inI k) (h15 : x 15 = v) (hO : MOut g w B v L) : pw_M g l yX10_letter cX10_letter 2 (some .int) { frames := 0, cells := 0, slots := 0, locals := 0 } [.ref b, .int (iZ k)] w (fun r w' => w = w' ∧ r = some (.int (iZ (ltF L k)))) := by
  refine pw_M.of (by decide) (Nat.le_of_ble_eq_true rfl) rfl ?_
  intro p e s m args below meth c C hr hn
  have hOv := hO.v
  obtain ⟨fo, q1, q2, q3⟩ := id hO
  refine pw_iload_n (i := 1) C dX10_letter_0 rfl rfl ?_
  refine pw_if_lt (tgt := 21) C (by omega) dX10_letter_1 (by decide) (fun h_1 => ?_) (fun h_1 => ?_)
  · refine pw_iconst C dX10_letter_21 ?_
    exact pw_iret C hr dX10_letter_22 ⟨rfl, by unfold ltF; rw [if_neg (by have := q3.1; split at this <;> omega)]⟩
  · refine pw_iload_n (i := 1) C dX10_letter_4 rfl rfl ?_
    refine pw_aload_n (i := 0) C dX10_letter_5 rfl rfl (Or.inr ⟨_, rfl⟩) ?_
    refine pw_get (j := 15) C cl_X10 fl_X10_265 (by decide) rfl h0 rfl dX10_letter_6 ?_
    refine pw_stk (st' := [.int (iZ (x 15)), .int (iZ k)]) rfl ?_
    refine pw_stk (st' := [.int (iZ v), .int (iZ k)]) (by rw [h15]) ?_
    refine pw_icmp_ge (tgt := 21) C (by omega) (by omega) dX10_letter_9 (by decide) (fun h_2 => ?_) (fun h_2 => ?_)
    · refine pw_iconst C dX10_letter_21 ?_
      exact pw_iret C hr dX10_letter_22 ⟨rfl, by unfold ltF; rw [if_neg (by have := q3.1; split at this <;> omega)]⟩
    · refine pw_aload_n (i := 0) C dX10_letter_12 rfl rfl (Or.inr ⟨_, rfl⟩) ?_
      refine pw_get (j := 14) C cl_X10 fl_X10_46 (by decide) rfl h0 rfl dX10_letter_13 ?_
      refine pw_stk (st' := [.ref (B 14)]) rfl ?_
      refine pw_iload_n (i := 1) C dX10_letter_16 rfl rfl ?_
      have g_3 := q2 k
      refine pw_iald C q1 ⟨by omega, by omega, by omega⟩ dX10_letter_17 ?_
      refine pw_goto (tgt := 22) C dX10_letter_18 (by decide) ?_
      exact pw_iret C hr dX10_letter_22 ⟨rfl, by unfold ltF; rw [if_pos (by have := q3.1; split at this <;> omega), List.getD_eq_getElem?_getD, q3.2 k.toNat (by omega), show ((k.toNat : Nat) : Int) = k by omega]; rfl⟩

set_option maxRecDepth 100000 in
set_option maxHeartbeats 4000000 in
/-- feed -/
theorem m_X10_feed (g : pw_P) (l : Launch) {w : pw_W} {b : Nat} {B : Nat → Nat} {x : Nat → Int} (h0 : w 1000 = (b, some (mdE B x))) {a b2 c2 d2 e2 : Int} {fw : Int → Int} (a11 : w 1012 = (B 11, some (AI g 20 fw))) (u11 : ∀ j, inI (fw j)) (h0_ : inI a) (h1_ : inI b2) (h2_ : inI c2) (h3_ : inI d2) (h4_ : inI e2) : pw_M g l yX10_feed cX10_feed 7 none { frames := 0, cells := 0, slots := 0, locals := 0 } [.ref b, .int (iZ a), .int (iZ b2), .int (iZ c2), .int (iZ d2), .int (iZ e2)] w (fun r w' => r = none ∧ ∃ fw', w' 1012 = (B 11, some (AI g 20 fw')) ∧ (∀ j, inI (fw' j)) ∧ (∀ i : Int, 0 ≤ i → i < 20 → fw' i = wbA (ar5 a b2 c2 d2 e2) i) ∧ ∀ k, k ≠ 1012 → w' k = w k) := by
  refine pw_M.of (by decide) (Nat.le_of_ble_eq_true rfl) rfl ?_
  intro p e s m args below meth c C hr hn
  refine pw_iconst C dX10_feed_0 ?_
  refine pw_istore (lv' := [(0, .ref b), (1, .int (iZ a)), (2, .int (iZ b2)), (3, .int (iZ c2)), (4, .int (iZ d2)), (5, .int (iZ e2)), (6, .int (iZ 0))]) C dX10_feed_1 (by decide) rfl ?_
  refine pw_iload C dX10_feed_3 rfl ?_
  refine pw_iconst C dX10_feed_5 ?_
  refine pw_icmp_ge (tgt := 133) C (by omega) (by omega) dX10_feed_6 (by decide) (fun h_1 => ?_) (fun h_1 => ?_)
  · exfalso; omega
  · refine pw_aload_n (i := 0) C dX10_feed_9 rfl rfl (Or.inr ⟨_, rfl⟩) ?_
    refine pw_get (j := 11) C cl_X10 fl_X10_40 (by decide) rfl h0 rfl dX10_feed_10 ?_
    refine pw_stk (st' := [.ref (B 11)]) rfl ?_
    refine pw_iload C dX10_feed_13 rfl ?_
    refine pw_iload_n (i := 1) C dX10_feed_15 rfl rfl ?_
    refine pw_bipush C dX10_feed_16 (by decide) ?_
    refine pw_bipush C dX10_feed_18 (by decide) ?_
    refine pw_iload C dX10_feed_20 rfl ?_
    refine pw_imul C dX10_feed_22 ?_
    refine pw_isub C dX10_feed_23 ?_
    refine pw_ishr (z := a / ((2 ^ ((24 - (8 * 0)) : Int).toNat : Nat) : Int)) C dX10_feed_24 (iz_shrZ h0_ (by omega)) ?_
    refine pw_sipush C dX10_feed_25 (by decide) ?_
    refine pw_iand (z := byB a 24) C dX10_feed_28 (by rw [iz_and255, byB_sZ (by omega)]; rfl) ?_
    refine pw_iast C a11 ⟨by omega, by omega, by omega⟩ dX10_feed_29 (fun w_4 k_2 o_3 => ?_)
    refine pw_aload_n (i := 0) C dX10_feed_30 rfl rfl (Or.inr ⟨_, rfl⟩) ?_
    have c_5 := (o_3 1000 (by omega)).trans h0
    refine pw_get (j := 11) C cl_X10 fl_X10_40 (by decide) rfl c_5 rfl dX10_feed_31 ?_
    refine pw_stk (st' := [.ref (B 11)]) rfl ?_
    refine pw_iconst C dX10_feed_34 ?_
    refine pw_iload C dX10_feed_35 rfl ?_
    refine pw_iadd C dX10_feed_37 ?_
    refine pw_iload_n (i := 2) C dX10_feed_38 rfl rfl ?_
    refine pw_bipush C dX10_feed_39 (by decide) ?_
    refine pw_bipush C dX10_feed_41 (by decide) ?_
    refine pw_iload C dX10_feed_43 rfl ?_
    refine pw_imul C dX10_feed_45 ?_
    refine pw_isub C dX10_feed_46 ?_
    refine pw_ishr (z := b2 / ((2 ^ ((24 - (8 * 0)) : Int).toNat : Nat) : Int)) C dX10_feed_47 (iz_shrZ h1_ (by omega)) ?_
    refine pw_sipush C dX10_feed_48 (by decide) ?_
    refine pw_iand (z := byB b2 24) C dX10_feed_51 (by rw [iz_and255, byB_sZ (by omega)]; rfl) ?_
    refine pw_iast C k_2 ⟨by omega, by omega, by omega⟩ dX10_feed_52 (fun w_8 k_6 o_7 => ?_)
    refine pw_aload_n (i := 0) C dX10_feed_53 rfl rfl (Or.inr ⟨_, rfl⟩) ?_
    have c_9 := (o_7 1000 (by omega)).trans c_5
    refine pw_get (j := 11) C cl_X10 fl_X10_40 (by decide) rfl c_9 rfl dX10_feed_54 ?_
    refine pw_stk (st' := [.ref (B 11)]) rfl ?_
    refine pw_bipush C dX10_feed_57 (by decide) ?_
    refine pw_iload C dX10_feed_59 rfl ?_
    refine pw_iadd C dX10_feed_61 ?_
    refine pw_iload_n (i := 3) C dX10_feed_62 rfl rfl ?_
    refine pw_bipush C dX10_feed_63 (by decide) ?_
    refine pw_bipush C dX10_feed_65 (by decide) ?_
    refine pw_iload C dX10_feed_67 rfl ?_
    refine pw_imul C dX10_feed_69 ?_
    refine pw_isub C dX10_feed_70 ?_
    refine pw_ishr (z := c2 / ((2 ^ ((24 - (8 * 0)) : Int).toNat : Nat) : Int)) C dX10_feed_71 (iz_shrZ h2_ (by omega)) ?_
    refine pw_sipush C dX10_feed_72 (by decide) ?_
    refine pw_iand (z := byB c2 24) C dX10_feed_75 (by rw [iz_and255, byB_sZ (by omega)]; rfl) ?_
    refine pw_iast C k_6 ⟨by omega, by omega, by omega⟩ dX10_feed_76 (fun w_12 k_10 o_11 => ?_)
    refine pw_aload_n (i := 0) C dX10_feed_77 rfl rfl (Or.inr ⟨_, rfl⟩) ?_
    have c_13 := (o_11 1000 (by omega)).trans c_9
    refine pw_get (j := 11) C cl_X10 fl_X10_40 (by decide) rfl c_13 rfl dX10_feed_78 ?_
    refine pw_stk (st' := [.ref (B 11)]) rfl ?_
    refine pw_bipush C dX10_feed_81 (by decide) ?_
    refine pw_iload C dX10_feed_83 rfl ?_
    refine pw_iadd C dX10_feed_85 ?_
    refine pw_iload C dX10_feed_86 rfl ?_
    refine pw_bipush C dX10_feed_88 (by decide) ?_
    refine pw_bipush C dX10_feed_90 (by decide) ?_
    refine pw_iload C dX10_feed_92 rfl ?_
    refine pw_imul C dX10_feed_94 ?_
    refine pw_isub C dX10_feed_95 ?_
    refine pw_ishr (z := d2 / ((2 ^ ((24 - (8 * 0)) : Int).toNat : Nat) : Int)) C dX10_feed_96 (iz_shrZ h3_ (by omega)) ?_
    refine pw_sipush C dX10_feed_97 (by decide) ?_
    refine pw_iand (z := byB d2 24) C dX10_feed_100 (by rw [iz_and255, byB_sZ (by omega)]; rfl) ?_
    refine pw_iast C k_10 ⟨by omega, by omega, by omega⟩ dX10_feed_101 (fun w_16 k_14 o_15 => ?_)
    refine pw_aload_n (i := 0) C dX10_feed_102 rfl rfl (Or.inr ⟨_, rfl⟩) ?_
    have c_17 := (o_15 1000 (by omega)).trans c_13
    refine pw_get (j := 11) C cl_X10 fl_X10_40 (by decide) rfl c_17 rfl dX10_feed_103 ?_
    refine pw_stk (st' := [.ref (B 11)]) rfl ?_
    refine pw_bipush C dX10_feed_106 (by decide) ?_
    refine pw_iload C dX10_feed_108 rfl ?_
    refine pw_iadd C dX10_feed_110 ?_
    refine pw_iload C dX10_feed_111 rfl ?_
    refine pw_bipush C dX10_feed_113 (by decide) ?_
    refine pw_bipush C dX10_feed_115 (by decide) ?_
    refine pw_iload C dX10_feed_117 rfl ?_
    refine pw_imul C dX10_feed_119 ?_
    refine pw_isub C dX10_feed_120 ?_
    refine pw_ishr (z := e2 / ((2 ^ ((24 - (8 * 0)) : Int).toNat : Nat) : Int)) C dX10_feed_121 (iz_shrZ h4_ (by omega)) ?_
    refine pw_sipush C dX10_feed_122 (by decide) ?_
    refine pw_iand (z := byB e2 24) C dX10_feed_125 (by rw [iz_and255, byB_sZ (by omega)]; rfl) ?_
    refine pw_iast C k_14 ⟨by omega, by omega, by omega⟩ dX10_feed_126 (fun w_20 k_18 o_19 => ?_)
    refine pw_iinc (lv' := [(0, .ref b), (1, .int (iZ a)), (2, .int (iZ b2)), (3, .int (iZ c2)), (4, .int (iZ d2)), (5, .int (iZ e2)), (6, .int (iZ (0 + 1)))]) C dX10_feed_127 rfl (by decide) rfl ?_
    refine pw_goto (tgt := 3) C dX10_feed_130 (by decide) ?_
    refine pw_iload C dX10_feed_3 rfl ?_
    refine pw_iconst C dX10_feed_5 ?_
    refine pw_icmp_ge (tgt := 133) C (by omega) (by omega) dX10_feed_6 (by decide) (fun h_21 => ?_) (fun h_21 => ?_)
    · exfalso; omega
    · refine pw_aload_n (i := 0) C dX10_feed_9 rfl rfl (Or.inr ⟨_, rfl⟩) ?_
      have c_22 := (o_19 1000 (by omega)).trans c_17
      refine pw_get (j := 11) C cl_X10 fl_X10_40 (by decide) rfl c_22 rfl dX10_feed_10 ?_
      refine pw_stk (st' := [.ref (B 11)]) rfl ?_
      refine pw_iload C dX10_feed_13 rfl ?_
      refine pw_iload_n (i := 1) C dX10_feed_15 rfl rfl ?_
      refine pw_bipush C dX10_feed_16 (by decide) ?_
      refine pw_bipush C dX10_feed_18 (by decide) ?_
      refine pw_iload C dX10_feed_20 rfl ?_
      refine pw_imul C dX10_feed_22 ?_
      refine pw_isub C dX10_feed_23 ?_
      refine pw_ishr (z := a / ((2 ^ ((24 - (8 * (0 + 1))) : Int).toNat : Nat) : Int)) C dX10_feed_24 (iz_shrZ h0_ (by omega)) ?_
      refine pw_sipush C dX10_feed_25 (by decide) ?_
      refine pw_iand (z := byB a 16) C dX10_feed_28 (by rw [iz_and255, byB_sZ (by omega)]; rfl) ?_
      refine pw_iast C k_18 ⟨by omega, by omega, by omega⟩ dX10_feed_29 (fun w_25 k_23 o_24 => ?_)
      refine pw_aload_n (i := 0) C dX10_feed_30 rfl rfl (Or.inr ⟨_, rfl⟩) ?_
      have c_26 := (o_24 1000 (by omega)).trans c_22
      refine pw_get (j := 11) C cl_X10 fl_X10_40 (by decide) rfl c_26 rfl dX10_feed_31 ?_
      refine pw_stk (st' := [.ref (B 11)]) rfl ?_
      refine pw_iconst C dX10_feed_34 ?_
      refine pw_iload C dX10_feed_35 rfl ?_
      refine pw_iadd C dX10_feed_37 ?_
      refine pw_iload_n (i := 2) C dX10_feed_38 rfl rfl ?_
      refine pw_bipush C dX10_feed_39 (by decide) ?_
      refine pw_bipush C dX10_feed_41 (by decide) ?_
      refine pw_iload C dX10_feed_43 rfl ?_
      refine pw_imul C dX10_feed_45 ?_
      refine pw_isub C dX10_feed_46 ?_
      refine pw_ishr (z := b2 / ((2 ^ ((24 - (8 * (0 + 1))) : Int).toNat : Nat) : Int)) C dX10_feed_47 (iz_shrZ h1_ (by omega)) ?_
      refine pw_sipush C dX10_feed_48 (by decide) ?_
      refine pw_iand (z := byB b2 16) C dX10_feed_51 (by rw [iz_and255, byB_sZ (by omega)]; rfl) ?_
      refine pw_iast C k_23 ⟨by omega, by omega, by omega⟩ dX10_feed_52 (fun w_29 k_27 o_28 => ?_)
      refine pw_aload_n (i := 0) C dX10_feed_53 rfl rfl (Or.inr ⟨_, rfl⟩) ?_
      have c_30 := (o_28 1000 (by omega)).trans c_26
      refine pw_get (j := 11) C cl_X10 fl_X10_40 (by decide) rfl c_30 rfl dX10_feed_54 ?_
      refine pw_stk (st' := [.ref (B 11)]) rfl ?_
      refine pw_bipush C dX10_feed_57 (by decide) ?_
      refine pw_iload C dX10_feed_59 rfl ?_
      refine pw_iadd C dX10_feed_61 ?_
      refine pw_iload_n (i := 3) C dX10_feed_62 rfl rfl ?_
      refine pw_bipush C dX10_feed_63 (by decide) ?_
      refine pw_bipush C dX10_feed_65 (by decide) ?_
      refine pw_iload C dX10_feed_67 rfl ?_
      refine pw_imul C dX10_feed_69 ?_
      refine pw_isub C dX10_feed_70 ?_
      refine pw_ishr (z := c2 / ((2 ^ ((24 - (8 * (0 + 1))) : Int).toNat : Nat) : Int)) C dX10_feed_71 (iz_shrZ h2_ (by omega)) ?_
      refine pw_sipush C dX10_feed_72 (by decide) ?_
      refine pw_iand (z := byB c2 16) C dX10_feed_75 (by rw [iz_and255, byB_sZ (by omega)]; rfl) ?_
      refine pw_iast C k_27 ⟨by omega, by omega, by omega⟩ dX10_feed_76 (fun w_33 k_31 o_32 => ?_)
      refine pw_aload_n (i := 0) C dX10_feed_77 rfl rfl (Or.inr ⟨_, rfl⟩) ?_
      have c_34 := (o_32 1000 (by omega)).trans c_30
      refine pw_get (j := 11) C cl_X10 fl_X10_40 (by decide) rfl c_34 rfl dX10_feed_78 ?_
      refine pw_stk (st' := [.ref (B 11)]) rfl ?_
      refine pw_bipush C dX10_feed_81 (by decide) ?_
      refine pw_iload C dX10_feed_83 rfl ?_
      refine pw_iadd C dX10_feed_85 ?_
      refine pw_iload C dX10_feed_86 rfl ?_
      refine pw_bipush C dX10_feed_88 (by decide) ?_
      refine pw_bipush C dX10_feed_90 (by decide) ?_
      refine pw_iload C dX10_feed_92 rfl ?_
      refine pw_imul C dX10_feed_94 ?_
      refine pw_isub C dX10_feed_95 ?_
      refine pw_ishr (z := d2 / ((2 ^ ((24 - (8 * (0 + 1))) : Int).toNat : Nat) : Int)) C dX10_feed_96 (iz_shrZ h3_ (by omega)) ?_
      refine pw_sipush C dX10_feed_97 (by decide) ?_
      refine pw_iand (z := byB d2 16) C dX10_feed_100 (by rw [iz_and255, byB_sZ (by omega)]; rfl) ?_
      refine pw_iast C k_31 ⟨by omega, by omega, by omega⟩ dX10_feed_101 (fun w_37 k_35 o_36 => ?_)
      refine pw_aload_n (i := 0) C dX10_feed_102 rfl rfl (Or.inr ⟨_, rfl⟩) ?_
      have c_38 := (o_36 1000 (by omega)).trans c_34
      refine pw_get (j := 11) C cl_X10 fl_X10_40 (by decide) rfl c_38 rfl dX10_feed_103 ?_
      refine pw_stk (st' := [.ref (B 11)]) rfl ?_
      refine pw_bipush C dX10_feed_106 (by decide) ?_
      refine pw_iload C dX10_feed_108 rfl ?_
      refine pw_iadd C dX10_feed_110 ?_
      refine pw_iload C dX10_feed_111 rfl ?_
      refine pw_bipush C dX10_feed_113 (by decide) ?_
      refine pw_bipush C dX10_feed_115 (by decide) ?_
      refine pw_iload C dX10_feed_117 rfl ?_
      refine pw_imul C dX10_feed_119 ?_
      refine pw_isub C dX10_feed_120 ?_
      refine pw_ishr (z := e2 / ((2 ^ ((24 - (8 * (0 + 1))) : Int).toNat : Nat) : Int)) C dX10_feed_121 (iz_shrZ h4_ (by omega)) ?_
      refine pw_sipush C dX10_feed_122 (by decide) ?_
      refine pw_iand (z := byB e2 16) C dX10_feed_125 (by rw [iz_and255, byB_sZ (by omega)]; rfl) ?_
      refine pw_iast C k_35 ⟨by omega, by omega, by omega⟩ dX10_feed_126 (fun w_41 k_39 o_40 => ?_)
      refine pw_iinc (lv' := [(0, .ref b), (1, .int (iZ a)), (2, .int (iZ b2)), (3, .int (iZ c2)), (4, .int (iZ d2)), (5, .int (iZ e2)), (6, .int (iZ ((0 + 1) + 1)))]) C dX10_feed_127 rfl (by decide) rfl ?_
      refine pw_goto (tgt := 3) C dX10_feed_130 (by decide) ?_
      refine pw_iload C dX10_feed_3 rfl ?_
      refine pw_iconst C dX10_feed_5 ?_
      refine pw_icmp_ge (tgt := 133) C (by omega) (by omega) dX10_feed_6 (by decide) (fun h_42 => ?_) (fun h_42 => ?_)
      · exfalso; omega
      · refine pw_aload_n (i := 0) C dX10_feed_9 rfl rfl (Or.inr ⟨_, rfl⟩) ?_
        have c_43 := (o_40 1000 (by omega)).trans c_38
        refine pw_get (j := 11) C cl_X10 fl_X10_40 (by decide) rfl c_43 rfl dX10_feed_10 ?_
        refine pw_stk (st' := [.ref (B 11)]) rfl ?_
        refine pw_iload C dX10_feed_13 rfl ?_
        refine pw_iload_n (i := 1) C dX10_feed_15 rfl rfl ?_
        refine pw_bipush C dX10_feed_16 (by decide) ?_
        refine pw_bipush C dX10_feed_18 (by decide) ?_
        refine pw_iload C dX10_feed_20 rfl ?_
        refine pw_imul C dX10_feed_22 ?_
        refine pw_isub C dX10_feed_23 ?_
        refine pw_ishr (z := a / ((2 ^ ((24 - (8 * ((0 + 1) + 1))) : Int).toNat : Nat) : Int)) C dX10_feed_24 (iz_shrZ h0_ (by omega)) ?_
        refine pw_sipush C dX10_feed_25 (by decide) ?_
        refine pw_iand (z := byB a 8) C dX10_feed_28 (by rw [iz_and255, byB_sZ (by omega)]; rfl) ?_
        refine pw_iast C k_39 ⟨by omega, by omega, by omega⟩ dX10_feed_29 (fun w_46 k_44 o_45 => ?_)
        refine pw_aload_n (i := 0) C dX10_feed_30 rfl rfl (Or.inr ⟨_, rfl⟩) ?_
        have c_47 := (o_45 1000 (by omega)).trans c_43
        refine pw_get (j := 11) C cl_X10 fl_X10_40 (by decide) rfl c_47 rfl dX10_feed_31 ?_
        refine pw_stk (st' := [.ref (B 11)]) rfl ?_
        refine pw_iconst C dX10_feed_34 ?_
        refine pw_iload C dX10_feed_35 rfl ?_
        refine pw_iadd C dX10_feed_37 ?_
        refine pw_iload_n (i := 2) C dX10_feed_38 rfl rfl ?_
        refine pw_bipush C dX10_feed_39 (by decide) ?_
        refine pw_bipush C dX10_feed_41 (by decide) ?_
        refine pw_iload C dX10_feed_43 rfl ?_
        refine pw_imul C dX10_feed_45 ?_
        refine pw_isub C dX10_feed_46 ?_
        refine pw_ishr (z := b2 / ((2 ^ ((24 - (8 * ((0 + 1) + 1))) : Int).toNat : Nat) : Int)) C dX10_feed_47 (iz_shrZ h1_ (by omega)) ?_
        refine pw_sipush C dX10_feed_48 (by decide) ?_
        refine pw_iand (z := byB b2 8) C dX10_feed_51 (by rw [iz_and255, byB_sZ (by omega)]; rfl) ?_
        refine pw_iast C k_44 ⟨by omega, by omega, by omega⟩ dX10_feed_52 (fun w_50 k_48 o_49 => ?_)
        refine pw_aload_n (i := 0) C dX10_feed_53 rfl rfl (Or.inr ⟨_, rfl⟩) ?_
        have c_51 := (o_49 1000 (by omega)).trans c_47
        refine pw_get (j := 11) C cl_X10 fl_X10_40 (by decide) rfl c_51 rfl dX10_feed_54 ?_
        refine pw_stk (st' := [.ref (B 11)]) rfl ?_
        refine pw_bipush C dX10_feed_57 (by decide) ?_
        refine pw_iload C dX10_feed_59 rfl ?_
        refine pw_iadd C dX10_feed_61 ?_
        refine pw_iload_n (i := 3) C dX10_feed_62 rfl rfl ?_
        refine pw_bipush C dX10_feed_63 (by decide) ?_
        refine pw_bipush C dX10_feed_65 (by decide) ?_
        refine pw_iload C dX10_feed_67 rfl ?_
        refine pw_imul C dX10_feed_69 ?_
        refine pw_isub C dX10_feed_70 ?_
        refine pw_ishr (z := c2 / ((2 ^ ((24 - (8 * ((0 + 1) + 1))) : Int).toNat : Nat) : Int)) C dX10_feed_71 (iz_shrZ h2_ (by omega)) ?_
        refine pw_sipush C dX10_feed_72 (by decide) ?_
        refine pw_iand (z := byB c2 8) C dX10_feed_75 (by rw [iz_and255, byB_sZ (by omega)]; rfl) ?_
        refine pw_iast C k_48 ⟨by omega, by omega, by omega⟩ dX10_feed_76 (fun w_54 k_52 o_53 => ?_)
        refine pw_aload_n (i := 0) C dX10_feed_77 rfl rfl (Or.inr ⟨_, rfl⟩) ?_
        have c_55 := (o_53 1000 (by omega)).trans c_51
        refine pw_get (j := 11) C cl_X10 fl_X10_40 (by decide) rfl c_55 rfl dX10_feed_78 ?_
        refine pw_stk (st' := [.ref (B 11)]) rfl ?_
        refine pw_bipush C dX10_feed_81 (by decide) ?_
        refine pw_iload C dX10_feed_83 rfl ?_
        refine pw_iadd C dX10_feed_85 ?_
        refine pw_iload C dX10_feed_86 rfl ?_
        refine pw_bipush C dX10_feed_88 (by decide) ?_
        refine pw_bipush C dX10_feed_90 (by decide) ?_
        refine pw_iload C dX10_feed_92 rfl ?_
        refine pw_imul C dX10_feed_94 ?_
        refine pw_isub C dX10_feed_95 ?_
        refine pw_ishr (z := d2 / ((2 ^ ((24 - (8 * ((0 + 1) + 1))) : Int).toNat : Nat) : Int)) C dX10_feed_96 (iz_shrZ h3_ (by omega)) ?_
        refine pw_sipush C dX10_feed_97 (by decide) ?_
        refine pw_iand (z := byB d2 8) C dX10_feed_100 (by rw [iz_and255, byB_sZ (by omega)]; rfl) ?_
        refine pw_iast C k_52 ⟨by omega, by omega, by omega⟩ dX10_feed_101 (fun w_58 k_56 o_57 => ?_)
        refine pw_aload_n (i := 0) C dX10_feed_102 rfl rfl (Or.inr ⟨_, rfl⟩) ?_
        have c_59 := (o_57 1000 (by omega)).trans c_55
        refine pw_get (j := 11) C cl_X10 fl_X10_40 (by decide) rfl c_59 rfl dX10_feed_103 ?_
        refine pw_stk (st' := [.ref (B 11)]) rfl ?_
        refine pw_bipush C dX10_feed_106 (by decide) ?_
        refine pw_iload C dX10_feed_108 rfl ?_
        refine pw_iadd C dX10_feed_110 ?_
        refine pw_iload C dX10_feed_111 rfl ?_
        refine pw_bipush C dX10_feed_113 (by decide) ?_
        refine pw_bipush C dX10_feed_115 (by decide) ?_
        refine pw_iload C dX10_feed_117 rfl ?_
        refine pw_imul C dX10_feed_119 ?_
        refine pw_isub C dX10_feed_120 ?_
        refine pw_ishr (z := e2 / ((2 ^ ((24 - (8 * ((0 + 1) + 1))) : Int).toNat : Nat) : Int)) C dX10_feed_121 (iz_shrZ h4_ (by omega)) ?_
        refine pw_sipush C dX10_feed_122 (by decide) ?_
        refine pw_iand (z := byB e2 8) C dX10_feed_125 (by rw [iz_and255, byB_sZ (by omega)]; rfl) ?_
        refine pw_iast C k_56 ⟨by omega, by omega, by omega⟩ dX10_feed_126 (fun w_62 k_60 o_61 => ?_)
        refine pw_iinc (lv' := [(0, .ref b), (1, .int (iZ a)), (2, .int (iZ b2)), (3, .int (iZ c2)), (4, .int (iZ d2)), (5, .int (iZ e2)), (6, .int (iZ (((0 + 1) + 1) + 1)))]) C dX10_feed_127 rfl (by decide) rfl ?_
        refine pw_goto (tgt := 3) C dX10_feed_130 (by decide) ?_
        refine pw_iload C dX10_feed_3 rfl ?_
        refine pw_iconst C dX10_feed_5 ?_
        refine pw_icmp_ge (tgt := 133) C (by omega) (by omega) dX10_feed_6 (by decide) (fun h_63 => ?_) (fun h_63 => ?_)
        · exfalso; omega
        · refine pw_aload_n (i := 0) C dX10_feed_9 rfl rfl (Or.inr ⟨_, rfl⟩) ?_
          have c_64 := (o_61 1000 (by omega)).trans c_59
          refine pw_get (j := 11) C cl_X10 fl_X10_40 (by decide) rfl c_64 rfl dX10_feed_10 ?_
          refine pw_stk (st' := [.ref (B 11)]) rfl ?_
          refine pw_iload C dX10_feed_13 rfl ?_
          refine pw_iload_n (i := 1) C dX10_feed_15 rfl rfl ?_
          refine pw_bipush C dX10_feed_16 (by decide) ?_
          refine pw_bipush C dX10_feed_18 (by decide) ?_
          refine pw_iload C dX10_feed_20 rfl ?_
          refine pw_imul C dX10_feed_22 ?_
          refine pw_isub C dX10_feed_23 ?_
          refine pw_ishr (z := a / ((2 ^ ((24 - (8 * (((0 + 1) + 1) + 1))) : Int).toNat : Nat) : Int)) C dX10_feed_24 (iz_shrZ h0_ (by omega)) ?_
          refine pw_sipush C dX10_feed_25 (by decide) ?_
          refine pw_iand (z := byB a 0) C dX10_feed_28 (by rw [iz_and255, byB_sZ (by omega)]; rfl) ?_
          refine pw_iast C k_60 ⟨by omega, by omega, by omega⟩ dX10_feed_29 (fun w_67 k_65 o_66 => ?_)
          refine pw_aload_n (i := 0) C dX10_feed_30 rfl rfl (Or.inr ⟨_, rfl⟩) ?_
          have c_68 := (o_66 1000 (by omega)).trans c_64
          refine pw_get (j := 11) C cl_X10 fl_X10_40 (by decide) rfl c_68 rfl dX10_feed_31 ?_
          refine pw_stk (st' := [.ref (B 11)]) rfl ?_
          refine pw_iconst C dX10_feed_34 ?_
          refine pw_iload C dX10_feed_35 rfl ?_
          refine pw_iadd C dX10_feed_37 ?_
          refine pw_iload_n (i := 2) C dX10_feed_38 rfl rfl ?_
          refine pw_bipush C dX10_feed_39 (by decide) ?_
          refine pw_bipush C dX10_feed_41 (by decide) ?_
          refine pw_iload C dX10_feed_43 rfl ?_
          refine pw_imul C dX10_feed_45 ?_
          refine pw_isub C dX10_feed_46 ?_
          refine pw_ishr (z := b2 / ((2 ^ ((24 - (8 * (((0 + 1) + 1) + 1))) : Int).toNat : Nat) : Int)) C dX10_feed_47 (iz_shrZ h1_ (by omega)) ?_
          refine pw_sipush C dX10_feed_48 (by decide) ?_
          refine pw_iand (z := byB b2 0) C dX10_feed_51 (by rw [iz_and255, byB_sZ (by omega)]; rfl) ?_
          refine pw_iast C k_65 ⟨by omega, by omega, by omega⟩ dX10_feed_52 (fun w_71 k_69 o_70 => ?_)
          refine pw_aload_n (i := 0) C dX10_feed_53 rfl rfl (Or.inr ⟨_, rfl⟩) ?_
          have c_72 := (o_70 1000 (by omega)).trans c_68
          refine pw_get (j := 11) C cl_X10 fl_X10_40 (by decide) rfl c_72 rfl dX10_feed_54 ?_
          refine pw_stk (st' := [.ref (B 11)]) rfl ?_
          refine pw_bipush C dX10_feed_57 (by decide) ?_
          refine pw_iload C dX10_feed_59 rfl ?_
          refine pw_iadd C dX10_feed_61 ?_
          refine pw_iload_n (i := 3) C dX10_feed_62 rfl rfl ?_
          refine pw_bipush C dX10_feed_63 (by decide) ?_
          refine pw_bipush C dX10_feed_65 (by decide) ?_
          refine pw_iload C dX10_feed_67 rfl ?_
          refine pw_imul C dX10_feed_69 ?_
          refine pw_isub C dX10_feed_70 ?_
          refine pw_ishr (z := c2 / ((2 ^ ((24 - (8 * (((0 + 1) + 1) + 1))) : Int).toNat : Nat) : Int)) C dX10_feed_71 (iz_shrZ h2_ (by omega)) ?_
          refine pw_sipush C dX10_feed_72 (by decide) ?_
          refine pw_iand (z := byB c2 0) C dX10_feed_75 (by rw [iz_and255, byB_sZ (by omega)]; rfl) ?_
          refine pw_iast C k_69 ⟨by omega, by omega, by omega⟩ dX10_feed_76 (fun w_75 k_73 o_74 => ?_)
          refine pw_aload_n (i := 0) C dX10_feed_77 rfl rfl (Or.inr ⟨_, rfl⟩) ?_
          have c_76 := (o_74 1000 (by omega)).trans c_72
          refine pw_get (j := 11) C cl_X10 fl_X10_40 (by decide) rfl c_76 rfl dX10_feed_78 ?_
          refine pw_stk (st' := [.ref (B 11)]) rfl ?_
          refine pw_bipush C dX10_feed_81 (by decide) ?_
          refine pw_iload C dX10_feed_83 rfl ?_
          refine pw_iadd C dX10_feed_85 ?_
          refine pw_iload C dX10_feed_86 rfl ?_
          refine pw_bipush C dX10_feed_88 (by decide) ?_
          refine pw_bipush C dX10_feed_90 (by decide) ?_
          refine pw_iload C dX10_feed_92 rfl ?_
          refine pw_imul C dX10_feed_94 ?_
          refine pw_isub C dX10_feed_95 ?_
          refine pw_ishr (z := d2 / ((2 ^ ((24 - (8 * (((0 + 1) + 1) + 1))) : Int).toNat : Nat) : Int)) C dX10_feed_96 (iz_shrZ h3_ (by omega)) ?_
          refine pw_sipush C dX10_feed_97 (by decide) ?_
          refine pw_iand (z := byB d2 0) C dX10_feed_100 (by rw [iz_and255, byB_sZ (by omega)]; rfl) ?_
          refine pw_iast C k_73 ⟨by omega, by omega, by omega⟩ dX10_feed_101 (fun w_79 k_77 o_78 => ?_)
          refine pw_aload_n (i := 0) C dX10_feed_102 rfl rfl (Or.inr ⟨_, rfl⟩) ?_
          have c_80 := (o_78 1000 (by omega)).trans c_76
          refine pw_get (j := 11) C cl_X10 fl_X10_40 (by decide) rfl c_80 rfl dX10_feed_103 ?_
          refine pw_stk (st' := [.ref (B 11)]) rfl ?_
          refine pw_bipush C dX10_feed_106 (by decide) ?_
          refine pw_iload C dX10_feed_108 rfl ?_
          refine pw_iadd C dX10_feed_110 ?_
          refine pw_iload C dX10_feed_111 rfl ?_
          refine pw_bipush C dX10_feed_113 (by decide) ?_
          refine pw_bipush C dX10_feed_115 (by decide) ?_
          refine pw_iload C dX10_feed_117 rfl ?_
          refine pw_imul C dX10_feed_119 ?_
          refine pw_isub C dX10_feed_120 ?_
          refine pw_ishr (z := e2 / ((2 ^ ((24 - (8 * (((0 + 1) + 1) + 1))) : Int).toNat : Nat) : Int)) C dX10_feed_121 (iz_shrZ h4_ (by omega)) ?_
          refine pw_sipush C dX10_feed_122 (by decide) ?_
          refine pw_iand (z := byB e2 0) C dX10_feed_125 (by rw [iz_and255, byB_sZ (by omega)]; rfl) ?_
          refine pw_iast C k_77 ⟨by omega, by omega, by omega⟩ dX10_feed_126 (fun w_83 k_81 o_82 => ?_)
          refine pw_iinc (lv' := [(0, .ref b), (1, .int (iZ a)), (2, .int (iZ b2)), (3, .int (iZ c2)), (4, .int (iZ d2)), (5, .int (iZ e2)), (6, .int (iZ ((((0 + 1) + 1) + 1) + 1)))]) C dX10_feed_127 rfl (by decide) rfl ?_
          refine pw_goto (tgt := 3) C dX10_feed_130 (by decide) ?_
          refine pw_iload C dX10_feed_3 rfl ?_
          refine pw_iconst C dX10_feed_5 ?_
          refine pw_icmp_ge (tgt := 133) C (by omega) (by omega) dX10_feed_6 (by decide) (fun h_84 => ?_) (fun h_84 => ?_)
          · refine pw_vret C hr dX10_feed_133 ⟨rfl, _, k_81, (upz_inI (upz_inI (upz_inI (upz_inI (upz_inI (upz_inI (upz_inI (upz_inI (upz_inI (upz_inI (upz_inI (upz_inI (upz_inI (upz_inI (upz_inI (upz_inI (upz_inI (upz_inI (upz_inI (upz_inI u11 (byB_I _ _)) (byB_I _ _)) (byB_I _ _)) (byB_I _ _)) (byB_I _ _)) (byB_I _ _)) (byB_I _ _)) (byB_I _ _)) (byB_I _ _)) (byB_I _ _)) (byB_I _ _)) (byB_I _ _)) (byB_I _ _)) (byB_I _ _)) (byB_I _ _)) (byB_I _ _)) (byB_I _ _)) (byB_I _ _)) (byB_I _ _)) (byB_I _ _)), fun i i0 i1 => ?_, fun k hk => (o_82 k hk).trans ((o_78 k hk).trans ((o_74 k hk).trans ((o_70 k hk).trans ((o_66 k hk).trans ((o_61 k hk).trans ((o_57 k hk).trans ((o_53 k hk).trans ((o_49 k hk).trans ((o_45 k hk).trans ((o_40 k hk).trans ((o_36 k hk).trans ((o_32 k hk).trans ((o_28 k hk).trans ((o_24 k hk).trans ((o_19 k hk).trans ((o_15 k hk).trans ((o_11 k hk).trans ((o_7 k hk).trans (o_3 k hk)))))))))))))))))))⟩
            have h20 : i = 0 ∨ i = 1 ∨ i = 2 ∨ i = 3 ∨ i = 4 ∨ i = 5 ∨ i = 6 ∨ i = 7 ∨ i = 8 ∨ i = 9 ∨ i = 10 ∨ i = 11 ∨ i = 12 ∨ i = 13 ∨ i = 14 ∨ i = 15 ∨ i = 16 ∨ i = 17 ∨ i = 18 ∨ i = 19 := by omega
            rcases h20 with rfl | rfl | rfl | rfl | rfl | rfl | rfl | rfl | rfl | rfl | rfl | rfl | rfl | rfl | rfl | rfl | rfl | rfl | rfl | rfl <;> rfl
          · exfalso; omega

theorem upz_zero {f : Int → Int} {k : Nat} (h : ∀ i : Int, 0 ≤ i → i < (k : Int) → f i = 0) : ∀ i : Int, 0 ≤ i → i < ((k + 1 : Nat) : Int) → upz f (k : Int) 0 i = 0 := by
  intro i i0 i1
  by_cases e : i = k
  · rw [e, upz_self]
  · rw [upz_ne _ _ e]; exact h i i0 (by omega)
set_option maxRecDepth 100000 in
set_option maxHeartbeats 4000000 in
/-- end -/
theorem m_X10_end (g : pw_P) (l : Launch) {w : pw_W} {b : Nat} {B : Nat → Nat} {x : Nat → Int} (h0 : w 1000 = (b, some (mdE B x))) {y : Int} {f fw : Int → Int} {len : Nat} (hy : inI y) (a12 : w 1013 = (B 12, some (AI g 3000 f))) (u12 : ∀ j, inI (f j)) (a11 : w 1012 = (B 11, some (AI g 20 fw))) (u11 : ∀ j, inI (fw j)) (h13 : x 13 = ((len : Nat) : Int)) (hlen : len ≤ 3000) : pw_M g l yX10_end cX10_end 3 (some .int) { frames := 0, cells := 0, slots := 0, locals := 0 } [.ref b, .int (iZ y)] w (fun r w' => (if (0 ≤ y ∧ y ≤ 20 ∧ ((len : Nat) : Int) + y ≤ 3000) then r = some (.int (iZ (((len : Nat) : Int) + y))) ∧ w' 1000 = (b, some (mdE B (va_up x 13 (((len : Nat) : Int) + y)))) ∧ w' 1013 = (B 12, some (AI g 3000 (apF f len fw y.toNat))) ∧ (∃ fw', w' 1012 = (B 11, some (AI g 20 fw')) ∧ (∀ j, inI (fw' j)) ∧ ∀ i : Int, 0 ≤ i → i < 20 → fw' i = 0) else r = some (.int (iZ (-1))) ∧ w' = w) ∧ ∀ k, (k ≠ 1000 ∧ k ≠ 1012 ∧ k ≠ 1013) → w' k = w k) := by
  refine pw_M.of (by decide) (Nat.le_of_ble_eq_true rfl) rfl ?_
  intro p e s m args below meth c C hr hn
  refine pw_iload_n (i := 1) C dX10_end_0 rfl rfl ?_
  refine pw_if_lt (tgt := 22) C (by omega) dX10_end_1 (by decide) (fun h_501 => ?_) (fun h_501 => ?_)
  · refine pw_iconst C dX10_end_22 ?_
    exact pw_iret C hr dX10_end_23 ⟨by rw [if_neg (by omega)]; exact ⟨rfl, rfl⟩, fun _ _ => rfl⟩
  · refine pw_iload_n (i := 1) C dX10_end_4 rfl rfl ?_
    refine pw_bipush C dX10_end_5 (by decide) ?_
    refine pw_icmp_gt (tgt := 22) C (by omega) (by omega) dX10_end_7 (by decide) (fun h_502 => ?_) (fun h_502 => ?_)
    · refine pw_iconst C dX10_end_22 ?_
      exact pw_iret C hr dX10_end_23 ⟨by rw [if_neg (by omega)]; exact ⟨rfl, rfl⟩, fun _ _ => rfl⟩
    · refine pw_aload_n (i := 0) C dX10_end_10 rfl rfl (Or.inr ⟨_, rfl⟩) ?_
      refine pw_get (j := 13) C cl_X10 fl_X10_204 (by decide) rfl h0 rfl dX10_end_11 ?_
      refine pw_stk (st' := [.int (iZ (x 13))]) rfl ?_
      refine pw_stk (st' := [.int (iZ ((len : Nat) : Int))]) (by rw [h13]) ?_
      refine pw_iload_n (i := 1) C dX10_end_14 rfl rfl ?_
      refine pw_iadd C dX10_end_15 ?_
      refine pw_sipush C dX10_end_16 (by decide) ?_
      refine pw_icmp_le (tgt := 24) C (by omega) (by omega) dX10_end_19 (by decide) (fun h_503 => ?_) (fun h_503 => ?_)
      · refine pw_iconst C dX10_end_24 ?_
        refine pw_istore_n (i := 2) (lv' := [(0, .ref b), (1, .int (iZ y)), (2, .int (iZ 0))]) C dX10_end_25 rfl (by decide) rfl ?_
        have loop : ∀ (kk : Nat) (w1 : pw_W) (k : Nat), (k : Int) + kk = y → w1 1013 = (B 12, some (AI g 3000 (apF f len fw k))) → (∀ j, inI (apF f len fw k j)) → (∀ k, k ≠ 1013 → w1 k = w k) → pw_G g p l e { frames := 0, cells := 0, slots := 0, locals := 0 } s m args below meth c 3 (pw_Q g below (fun r w' => (if (0 ≤ y ∧ y ≤ 20 ∧ ((len : Nat) : Int) + y ≤ 3000) then r = some (.int (iZ (((len : Nat) : Int) + y))) ∧ w' 1000 = (b, some (mdE B (va_up x 13 (((len : Nat) : Int) + y)))) ∧ w' 1013 = (B 12, some (AI g 3000 (apF f len fw y.toNat))) ∧ (∃ fw', w' 1012 = (B 11, some (AI g 20 fw')) ∧ (∀ j, inI (fw' j)) ∧ ∀ i : Int, 0 ≤ i → i < 20 → fw' i = 0) else r = some (.int (iZ (-1))) ∧ w' = w) ∧ ∀ k, (k ≠ 1000 ∧ k ≠ 1012 ∧ k ≠ 1013) → w' k = w k) args s { frames := 0, cells := 0, slots := 0, locals := 0 }) 0 0 26 [(0, .ref b), (1, .int (iZ y)), (2, .int (iZ ((k : Nat) : Int)))] [] w1 := by
          intro kk
          induction kk with
          | zero =>
            intro w1 k hk y13 g13 hf1
            refine pw_iload_n (i := 2) C dX10_end_26 rfl rfl ?_
            refine pw_iload_n (i := 1) C dX10_end_27 rfl rfl ?_
            refine pw_icmp_ge (tgt := 54) C (by omega) (by omega) dX10_end_28 (by decide) (fun h_201 => ?_) (fun h_201 => ?_)
            · refine pw_aload_n (i := 0) C dX10_end_54 rfl rfl (Or.inr ⟨_, rfl⟩) ?_
              refine pw_dup C dX10_end_55 rfl ?_
              have c_202 := (hf1 1000 (by omega)).trans h0
              refine pw_get (j := 13) C cl_X10 fl_X10_204 (by decide) rfl c_202 rfl dX10_end_56 ?_
              refine pw_stk (st' := [.int (iZ (x 13)), .ref b]) rfl ?_
              refine pw_stk (st' := [.int (iZ ((len : Nat) : Int)), .ref b]) (by rw [h13]) ?_
              refine pw_iload_n (i := 1) C dX10_end_59 rfl rfl ?_
              refine pw_iadd C dX10_end_60 ?_
              refine pw_put (j := 13) C cl_X10 fl_X10_204 (by decide) rfl rfl rfl rfl rfl c_202 (Nat.le_of_ble_eq_true rfl) dX10_end_61 (fun w_205 k_203 o_204 => ?_)
              have k_206 : w_205 1000 = (b, some (mdE B (va_up x 13 (((len : Nat) : Int) + y)))) := k_203
              refine pw_iconst C dX10_end_64 ?_
              refine pw_istore_n (i := 2) (lv' := [(0, .ref b), (1, .int (iZ y)), (2, .int (iZ 0))]) C dX10_end_65 rfl (by decide) rfl ?_
              have loop2 : ∀ (kk : Nat) (w2 : pw_W) (k : Nat) (fw2 : Int → Int), k + kk = 20 → w2 1000 = (b, some (mdE B (va_up x 13 (((len : Nat) : Int) + y)))) → w2 1013 = (B 12, some (AI g 3000 (apF f len fw y.toNat))) → w2 1012 = (B 11, some (AI g 20 fw2)) → (∀ j, inI (fw2 j)) → (∀ i : Int, 0 ≤ i → i < (k : Int) → fw2 i = 0) → (∀ k, (k ≠ 1000 ∧ k ≠ 1012 ∧ k ≠ 1013) → w2 k = w k) → pw_G g p l e { frames := 0, cells := 0, slots := 0, locals := 0 } s m args below meth c 3 (pw_Q g below (fun r w' => (if (0 ≤ y ∧ y ≤ 20 ∧ ((len : Nat) : Int) + y ≤ 3000) then r = some (.int (iZ (((len : Nat) : Int) + y))) ∧ w' 1000 = (b, some (mdE B (va_up x 13 (((len : Nat) : Int) + y)))) ∧ w' 1013 = (B 12, some (AI g 3000 (apF f len fw y.toNat))) ∧ (∃ fw', w' 1012 = (B 11, some (AI g 20 fw')) ∧ (∀ j, inI (fw' j)) ∧ ∀ i : Int, 0 ≤ i → i < 20 → fw' i = 0) else r = some (.int (iZ (-1))) ∧ w' = w) ∧ ∀ k, (k ≠ 1000 ∧ k ≠ 1012 ∧ k ≠ 1013) → w' k = w k) args s { frames := 0, cells := 0, slots := 0, locals := 0 }) 0 0 66 [(0, .ref b), (1, .int (iZ y)), (2, .int (iZ ((k : Nat) : Int)))] [] w2 := by
                intro kk
                induction kk with
                | zero =>
                  intro w2 k fw2 hk2 y0 y13 y12 g12 hz hf2
                  refine pw_iload_n (i := 2) C dX10_end_66 rfl rfl ?_
                  refine pw_bipush C dX10_end_67 (by decide) ?_
                  refine pw_icmp_ge (tgt := 85) C (by omega) (by omega) dX10_end_69 (by decide) (fun h_11 => ?_) (fun h_11 => ?_)
                  · refine pw_aload_n (i := 0) C dX10_end_85 rfl rfl (Or.inr ⟨_, rfl⟩) ?_
                    refine pw_get (j := 13) C cl_X10 fl_X10_204 (by decide) rfl y0 rfl dX10_end_86 ?_
                    refine pw_stk (st' := [.int (iZ (((len : Nat) : Int) + y))]) rfl ?_
                    exact pw_iret C hr dX10_end_89 ⟨by rw [if_pos (by omega)]; exact ⟨rfl, y0, y13, ⟨fw2, y12, g12, fun i i0 i1 => hz i i0 (by omega)⟩⟩, hf2⟩
                  · exfalso; omega
                | succ kk ih2 =>
                  intro w2 k fw2 hk2 y0 y13 y12 g12 hz hf2
                  refine pw_iload_n (i := 2) C dX10_end_66 rfl rfl ?_
                  refine pw_bipush C dX10_end_67 (by decide) ?_
                  refine pw_icmp_ge (tgt := 85) C (by omega) (by omega) dX10_end_69 (by decide) (fun h_41 => ?_) (fun h_41 => ?_)
                  · exfalso; omega
                  · refine pw_aload_n (i := 0) C dX10_end_72 rfl rfl (Or.inr ⟨_, rfl⟩) ?_
                    refine pw_get (j := 11) C cl_X10 fl_X10_40 (by decide) rfl y0 rfl dX10_end_73 ?_
                    refine pw_stk (st' := [.ref (B 11)]) rfl ?_
                    refine pw_iload_n (i := 2) C dX10_end_76 rfl rfl ?_
                    refine pw_iconst C dX10_end_77 ?_
                    refine pw_iast C y12 ⟨by omega, by omega, by omega⟩ dX10_end_78 (fun w_44 k_42 o_43 => ?_)
                    refine pw_iinc (lv' := [(0, .ref b), (1, .int (iZ y)), (2, .int (iZ (((k : Nat) : Int) + 1)))]) C dX10_end_79 rfl (by decide) rfl ?_
                    refine pw_goto (tgt := 66) C dX10_end_82 (by decide) ?_
                    have c_45 := (o_43 1000 (by omega)).trans y0
                    rw [show ((k : Nat) : Int) + 1 = ((k + 1 : Nat) : Int) by omega]
                    exact ih2 w_44 (k + 1) _ (by omega) c_45 ((o_43 1013 (by decide)).trans y13) k_42 (upz_inI g12 (by decide)) (upz_zero hz) (fun q hq => (o_43 q (by omega)).trans (hf2 q (by omega)))
              exact loop2 20 w_205 0 fw rfl k_206 (by rw [show y.toNat = k by omega]; exact ((o_204 1013 (by omega))).trans y13) (((o_204 1012 (by omega)).trans (hf1 1012 (by omega))).trans a11) u11 (fun i i0 i1 => absurd i1 (by omega)) (fun q hq => (o_204 q (by omega)).trans (hf1 q (by omega)))
            · exfalso; omega
          | succ kk ih =>
            intro w1 k hk y13 g13 hf1
            refine pw_iload_n (i := 2) C dX10_end_26 rfl rfl ?_
            refine pw_iload_n (i := 1) C dX10_end_27 rfl rfl ?_
            refine pw_icmp_ge (tgt := 54) C (by omega) (by omega) dX10_end_28 (by decide) (fun h_301 => ?_) (fun h_301 => ?_)
            · exfalso; omega
            · refine pw_aload_n (i := 0) C dX10_end_31 rfl rfl (Or.inr ⟨_, rfl⟩) ?_
              have c_302 := (hf1 1000 (by omega)).trans h0
              refine pw_get (j := 12) C cl_X10 fl_X10_43 (by decide) rfl c_302 rfl dX10_end_32 ?_
              refine pw_stk (st' := [.ref (B 12)]) rfl ?_
              refine pw_aload_n (i := 0) C dX10_end_35 rfl rfl (Or.inr ⟨_, rfl⟩) ?_
              refine pw_get (j := 13) C cl_X10 fl_X10_204 (by decide) rfl c_302 rfl dX10_end_36 ?_
              refine pw_stk (st' := [.int (iZ (x 13)), .ref (B 12)]) rfl ?_
              refine pw_stk (st' := [.int (iZ ((len : Nat) : Int)), .ref (B 12)]) (by rw [h13]) ?_
              refine pw_iload_n (i := 2) C dX10_end_39 rfl rfl ?_
              refine pw_iadd C dX10_end_40 ?_
              refine pw_aload_n (i := 0) C dX10_end_41 rfl rfl (Or.inr ⟨_, rfl⟩) ?_
              refine pw_get (j := 11) C cl_X10 fl_X10_40 (by decide) rfl c_302 rfl dX10_end_42 ?_
              refine pw_stk (st' := [.ref (B 11), .int (iZ (((len : Nat) : Int) + ((k : Nat) : Int))), .ref (B 12)]) rfl ?_
              refine pw_iload_n (i := 2) C dX10_end_45 rfl rfl ?_
              have c_303 := (hf1 1012 (by omega)).trans a11
              have g_304 := u11 ((k : Nat) : Int)
              refine pw_iald C c_303 ⟨by omega, by omega, by omega⟩ dX10_end_46 ?_
              refine pw_iast C y13 ⟨by omega, by omega, by omega⟩ dX10_end_47 (fun w_307 k_305 o_306 => ?_)
              refine pw_iinc (lv' := [(0, .ref b), (1, .int (iZ y)), (2, .int (iZ (((k : Nat) : Int) + 1)))]) C dX10_end_48 rfl (by decide) rfl ?_
              refine pw_goto (tgt := 26) C dX10_end_51 (by decide) ?_
              rw [show ((k : Nat) : Int) + 1 = ((k + 1 : Nat) : Int) by omega]
              exact ih w_307 (k + 1) (by omega) k_305 (upz_inI g13 (u11 _)) (fun q hq => (o_306 q (by omega)).trans (hf1 q (by omega)))
        exact loop y.toNat w 0 (by omega) a12 u12 (fun _ _ => rfl)
      · refine pw_iconst C dX10_end_22 ?_
        exact pw_iret C hr dX10_end_23 ⟨by rw [if_neg (by omega)]; exact ⟨rfl, rfl⟩, fun _ _ => rfl⟩

