theorem rI_up {x : Nat → Int} {k : Nat} {v : Int} (h : ∀ j, inI (x j)) (hv : inI v) : ∀ j, inI (va_up x k v j) := fun j => by unfold va_up; split <;> first | exact hv | exact h j
theorem rL_up {x : Nat → Int} {k : Nat} {v : Int} (h : ∀ j, inL (x j)) (hv : inL v) : ∀ j, inL (va_up x k v j) := fun j => by unfold va_up; split <;> first | exact hv | exact h j
theorem rF_up {f : Nat → Int → Int} {k : Nat} {v : Int → Int} (h : ∀ q j, inI (f q j)) (hv : ∀ j, inI (v j)) : ∀ q j, inI (va_up f k v q j) := fun q j => by unfold va_up; split <;> first | exact hv j | exact h q j
def Rd (g : pw_P) (w : pw_W) (x y : Nat → Int) (z : Nat → Option Nat) (f : Nat → Int → Int) (F : Nat → Nat → Option Nat) : Prop :=
  w 8 = ((w 8).1, some (OB 5 [.ref ((w 2).1), .ref ((w 9).1), .int (iZ (x 2)), .int (iZ (x 3)), .int (iZ (x 4)), .ref ((w 10).1), .int (iZ (x 6)), .ref ((w 11).1), .ref ((w 12).1), .int (iZ (x 9)), .int (iZ (x 10)), .int (iZ (x 11)), .long (lZ (y 12)), .long (lZ (y 13))])) ∧ w 9 = ((w 9).1, some (AC g 3000 (f 9))) ∧ w 10 = ((w 10).1, some (AI g 1000 (f 10))) ∧ w 11 = ((w 11).1, some (AI g 41 (f 11))) ∧ w 12 = ((w 12).1, some (AI g 41 (f 12))) ∧ (∀ k, inI (x k)) ∧ (∀ k, inL (y k)) ∧ (∀ q j, inI (f q j))
def Tl (g : pw_P) (w : pw_W) (x y : Nat → Int) (z : Nat → Option Nat) (f : Nat → Int → Int) (F : Nat → Nat → Option Nat) : Prop :=
  w 13 = ((w 13).1, some (OB 7 [.ref ((w 2).1), .ref ((w 14).1), .int (iZ (x 2)), .ref ((w 15).1), .int (iZ (x 4))])) ∧ w 14 = ((w 14).1, some (AC g 2000 (f 14))) ∧ w 15 = ((w 15).1, some (AI g 2000 (f 15))) ∧ (∀ k, inI (x k)) ∧ (∀ k, inL (y k)) ∧ (∀ q j, inI (f q j))
def Fn (g : pw_P) (w : pw_W) (x y : Nat → Int) (z : Nat → Option Nat) (f : Nat → Int → Int) (F : Nat → Nat → Option Nat) : Prop :=
  w 16 = ((w 16).1, some (OB 4 [.ref ((w 17).1), .int (iZ (x 1))])) ∧ w 17 = ((w 17).1, some (AR g 4 40 (F 17))) ∧ (∀ k, inI (x k)) ∧ (∀ k, inL (y k)) ∧ (∀ q j, inI (f q j))
def Tm (g : pw_P) (w : pw_W) (x y : Nat → Int) (z : Nat → Option Nat) (f : Nat → Int → Int) (F : Nat → Nat → Option Nat) : Prop :=
  w 21 = ((w 21).1, some (OB 8 [.ref ((w 2).1), .ref ((w 16).1), .ref ((w 22).1), .int (iZ (x 3))])) ∧ w 22 = ((w 22).1, some (AI g 120 (f 22))) ∧ (∀ k, inI (x k)) ∧ (∀ k, inL (y k)) ∧ (∀ q j, inI (f q j))
def Ev (g : pw_P) (w : pw_W) (x y : Nat → Int) (z : Nat → Option Nat) (f : Nat → Int → Int) (F : Nat → Nat → Option Nat) : Prop :=
  w 18 = ((w 18).1, some (OB 3 [.ref ((w 2).1), .ref ((w 16).1), .ref ((w 19).1), .int (iZ (x 3)), .int (iZ (x 4)), .int (iZ (x 5)), .int (iZ (x 6)), .int (iZ (x 7)), .int (iZ (x 8)), .int (iZ (x 9)), va_rf (z 10), .int (iZ (x 11))])) ∧ w 19 = ((w 19).1, some (AR g 5 300 (F 19))) ∧ (∀ k, inI (x k)) ∧ (∀ k, inL (y k)) ∧ (∀ q j, inI (f q j))
def Cm (g : pw_P) (w : pw_W) (x y : Nat → Int) (z : Nat → Option Nat) (f : Nat → Int → Int) (F : Nat → Nat → Option Nat) : Prop :=
  w 20 = ((w 20).1, some (OB 1 [.ref ((w 2).1), .ref ((w 16).1), .ref ((w 18).1), .ref ((w 21).1), .int (iZ (x 4)), .int (iZ (x 5))])) ∧ (∀ k, inI (x k)) ∧ (∀ k, inL (y k)) ∧ (∀ q j, inI (f q j))
def Lm (g : pw_P) (w : pw_W) (x y : Nat → Int) (z : Nat → Option Nat) (f : Nat → Int → Int) (F : Nat → Nat → Option Nat) : Prop :=
  w 0 = ((w 0).1, some (OB 9 [.ref ((w 1).1), .ref ((w 2).1), .ref ((w 8).1), .ref ((w 13).1), .ref ((w 16).1), .ref ((w 18).1), .ref ((w 20).1)])) ∧ w 1 = ((w 1).1, some (AI g 5 (f 1))) ∧ (∀ k, inI (x k)) ∧ (∀ k, inL (y k)) ∧ (∀ q j, inI (f q j))
set_option maxRecDepth 100000 in
set_option maxHeartbeats 4000000 in
/-- Reader.append -/
theorem m_X5_append (g : pw_P) (l : Launch) {w : pw_W} {x y : Nat → Int} {z : Nat → Option Nat} {f : Nat → Int → Int} {F : Nat → Nat → Option Nat} (h : Rd g w x y z f F) {c0 : Int} (hc : 0 ≤ c0 ∧ c0 < 256) (hx : 0 ≤ x 2 ∧ x 2 < 3000) : pw_M g l yX5_append cX5_append 2 none { frames := 0, cells := 0, slots := 0, locals := 0 } [.ref (w 8).1, .int (iZ c0)] w (fun r w' => r = none ∧ Rd g w' (va_up x 2 (x 2 + 1)) y z (va_up f 9 (upz (f 9) (x 2) c0)) F ∧ (w' 8).1 = (w 8).1 ∧ ∀ k, (k < 8 ∨ 12 < k) → w' k = w k) := by
  refine pw_M.of (by decide) (Nat.le_of_ble_eq_true rfl) rfl ?_
  intro p e s m args below meth c C hr hn
  refine pw_aload_n (i := 0) C dX5_append_0 rfl rfl (Or.inr ⟨_, rfl⟩) ?_
  refine pw_get (j := 2) C cl_X5 fl_X5_33 (by decide) rfl h.1 rfl dX5_append_1 ?_
  refine pw_sipush C dX5_append_4 (by decide) ?_
  refine pw_icmp_ge (tgt := 30) C (by omega) (by omega) dX5_append_7 (by decide) (fun h_1 => ?_) (fun h_1 => ?_)
  · exfalso; omega
  · refine pw_aload_n (i := 0) C dX5_append_10 rfl rfl (Or.inr ⟨_, rfl⟩) ?_
    refine pw_get (j := 1) C cl_X5 fl_X5_9 (by decide) rfl h.1 rfl dX5_append_11 ?_
    refine pw_aload_n (i := 0) C dX5_append_14 rfl rfl (Or.inr ⟨_, rfl⟩) ?_
    refine pw_get (j := 2) C cl_X5 fl_X5_33 (by decide) rfl h.1 rfl dX5_append_15 ?_
    refine pw_iload_n (i := 1) C dX5_append_18 rfl rfl ?_
    refine pw_cast C h.2.1 ⟨by omega, by omega, by omega⟩ (char_nar (by omega)) dX5_append_19 (fun w_4 k_2 o_3 => ?_)
    refine pw_aload_n (i := 0) C dX5_append_20 rfl rfl (Or.inr ⟨_, rfl⟩) ?_
    refine pw_dup C dX5_append_21 rfl ?_
    have c_5 := (o_3 8 (by decide)).trans h.1
    refine pw_get (j := 2) C cl_X5 fl_X5_33 (by decide) rfl c_5 rfl dX5_append_22 ?_
    refine pw_iconst C dX5_append_25 ?_
    refine pw_iadd C dX5_append_26 ?_
    refine pw_put (j := 2) C cl_X5 fl_X5_33 (by decide) rfl rfl rfl rfl rfl c_5 (Nat.le_of_ble_eq_true rfl) dX5_append_27 (fun w_8 k_6 o_7 => ?_)
    have k_9 : w_8 8 = ((w 8).1, some (OB 5 [.ref ((w 2).1), .ref ((w 9).1), .int (iZ ((x 2) + 1)), .int (iZ (x 3)), .int (iZ (x 4)), .ref ((w 10).1), .int (iZ (x 6)), .ref ((w 11).1), .ref ((w 12).1), .int (iZ (x 9)), .int (iZ (x 10)), .int (iZ (x 11)), .long (lZ (y 12)), .long (lZ (y 13))])) := k_6
    have c_10 := (o_7 9 (by decide)).trans k_2
    have c_11 := ((o_7 10 (by decide)).trans (o_3 10 (by decide))).trans h.2.2.1
    have c_12 := ((o_7 11 (by decide)).trans (o_3 11 (by decide))).trans h.2.2.2.1
    have c_13 := ((o_7 12 (by decide)).trans (o_3 12 (by decide))).trans h.2.2.2.2.1
    exact pw_vret C hr dX5_append_30 ⟨rfl, ⟨by rw [k_9] <;> simp [va_up, c_10, c_11, c_12, c_13, (show w_8 2 = w 2 from (o_7 2 (by decide)).trans (o_3 2 (by decide)))], by rw [c_10] <;> simp [va_up], by rw [c_11] <;> simp [va_up], by rw [c_12] <;> simp [va_up], by rw [c_13] <;> simp [va_up], (rI_up h.2.2.2.2.2.1 (by omega)), h.2.2.2.2.2.2.1, (rF_up h.2.2.2.2.2.2.2 (upz_inI (h.2.2.2.2.2.2.2 9) (by omega)))⟩, by rw [k_9], fun k hk => (o_7 k (by omega)).trans (o_3 k (by omega))⟩

set_option maxRecDepth 100000 in
set_option maxHeartbeats 4000000 in
/-- Reader.clear -/
theorem m_X5_clear (g : pw_P) (l : Launch) {w : pw_W} {x y : Nat → Int} {z : Nat → Option Nat} {f : Nat → Int → Int} {F : Nat → Nat → Option Nat} (h : Rd g w x y z f F)  : pw_M g l yX5_clear cX5_clear 1 none { frames := 0, cells := 0, slots := 0, locals := 0 } [.ref (w 8).1] w (fun r w' => r = none ∧ Rd g w' (va_up (va_up (va_up (va_up (va_up (va_up x 2 0) 3 0) 4 (-1)) 6 0) 9 0) 10 0) y z (va_up f 12 (upz (f 12) 0 0)) F ∧ (w' 8).1 = (w 8).1 ∧ ∀ k, (k < 8 ∨ 12 < k) → w' k = w k) := by
  refine pw_M.of (by decide) (Nat.le_of_ble_eq_true rfl) rfl ?_
  intro p e s m args below meth c C hr hn
  refine pw_aload_n (i := 0) C dX5_clear_0 rfl rfl (Or.inr ⟨_, rfl⟩) ?_
  refine pw_iconst C dX5_clear_1 ?_
  refine pw_put (j := 2) C cl_X5 fl_X5_33 (by decide) rfl rfl rfl rfl rfl h.1 (Nat.le_of_ble_eq_true rfl) dX5_clear_2 (fun w_3 k_1 o_2 => ?_)
  have k_4 : w_3 8 = ((w 8).1, some (OB 5 [.ref ((w 2).1), .ref ((w 9).1), .int (iZ 0), .int (iZ (x 3)), .int (iZ (x 4)), .ref ((w 10).1), .int (iZ (x 6)), .ref ((w 11).1), .ref ((w 12).1), .int (iZ (x 9)), .int (iZ (x 10)), .int (iZ (x 11)), .long (lZ (y 12)), .long (lZ (y 13))])) := k_1
  refine pw_aload_n (i := 0) C dX5_clear_5 rfl rfl (Or.inr ⟨_, rfl⟩) ?_
  refine pw_iconst C dX5_clear_6 ?_
  refine pw_put (j := 3) C cl_X5 fl_X5_36 (by decide) rfl rfl rfl rfl rfl k_4 (Nat.le_of_ble_eq_true rfl) dX5_clear_7 (fun w_7 k_5 o_6 => ?_)
  have k_8 : w_7 8 = ((w 8).1, some (OB 5 [.ref ((w 2).1), .ref ((w 9).1), .int (iZ 0), .int (iZ 0), .int (iZ (x 4)), .ref ((w 10).1), .int (iZ (x 6)), .ref ((w 11).1), .ref ((w 12).1), .int (iZ (x 9)), .int (iZ (x 10)), .int (iZ (x 11)), .long (lZ (y 12)), .long (lZ (y 13))])) := k_5
  refine pw_aload_n (i := 0) C dX5_clear_10 rfl rfl (Or.inr ⟨_, rfl⟩) ?_
  refine pw_iconst C dX5_clear_11 ?_
  refine pw_put (j := 4) C cl_X5 fl_X5_15 (by decide) rfl rfl rfl rfl rfl k_8 (Nat.le_of_ble_eq_true rfl) dX5_clear_12 (fun w_11 k_9 o_10 => ?_)
  have k_12 : w_11 8 = ((w 8).1, some (OB 5 [.ref ((w 2).1), .ref ((w 9).1), .int (iZ 0), .int (iZ 0), .int (iZ (-1)), .ref ((w 10).1), .int (iZ (x 6)), .ref ((w 11).1), .ref ((w 12).1), .int (iZ (x 9)), .int (iZ (x 10)), .int (iZ (x 11)), .long (lZ (y 12)), .long (lZ (y 13))])) := k_9
  refine pw_aload_n (i := 0) C dX5_clear_15 rfl rfl (Or.inr ⟨_, rfl⟩) ?_
  refine pw_iconst C dX5_clear_16 ?_
  refine pw_put (j := 6) C cl_X5 fl_X5_39 (by decide) rfl rfl rfl rfl rfl k_12 (Nat.le_of_ble_eq_true rfl) dX5_clear_17 (fun w_15 k_13 o_14 => ?_)
  have k_16 : w_15 8 = ((w 8).1, some (OB 5 [.ref ((w 2).1), .ref ((w 9).1), .int (iZ 0), .int (iZ 0), .int (iZ (-1)), .ref ((w 10).1), .int (iZ 0), .ref ((w 11).1), .ref ((w 12).1), .int (iZ (x 9)), .int (iZ (x 10)), .int (iZ (x 11)), .long (lZ (y 12)), .long (lZ (y 13))])) := k_13
  refine pw_aload_n (i := 0) C dX5_clear_20 rfl rfl (Or.inr ⟨_, rfl⟩) ?_
  refine pw_iconst C dX5_clear_21 ?_
  refine pw_put (j := 9) C cl_X5 fl_X5_42 (by decide) rfl rfl rfl rfl rfl k_16 (Nat.le_of_ble_eq_true rfl) dX5_clear_22 (fun w_19 k_17 o_18 => ?_)
  have k_20 : w_19 8 = ((w 8).1, some (OB 5 [.ref ((w 2).1), .ref ((w 9).1), .int (iZ 0), .int (iZ 0), .int (iZ (-1)), .ref ((w 10).1), .int (iZ 0), .ref ((w 11).1), .ref ((w 12).1), .int (iZ 0), .int (iZ (x 10)), .int (iZ (x 11)), .long (lZ (y 12)), .long (lZ (y 13))])) := k_17
  refine pw_aload_n (i := 0) C dX5_clear_25 rfl rfl (Or.inr ⟨_, rfl⟩) ?_
  refine pw_iconst C dX5_clear_26 ?_
  refine pw_put (j := 10) C cl_X5 fl_X5_45 (by decide) rfl rfl rfl rfl rfl k_20 (Nat.le_of_ble_eq_true rfl) dX5_clear_27 (fun w_23 k_21 o_22 => ?_)
  have k_24 : w_23 8 = ((w 8).1, some (OB 5 [.ref ((w 2).1), .ref ((w 9).1), .int (iZ 0), .int (iZ 0), .int (iZ (-1)), .ref ((w 10).1), .int (iZ 0), .ref ((w 11).1), .ref ((w 12).1), .int (iZ 0), .int (iZ 0), .int (iZ (x 11)), .long (lZ (y 12)), .long (lZ (y 13))])) := k_21
  refine pw_aload_n (i := 0) C dX5_clear_30 rfl rfl (Or.inr ⟨_, rfl⟩) ?_
  refine pw_get (j := 8) C cl_X5 fl_X5_26 (by decide) rfl k_24 rfl dX5_clear_31 ?_
  refine pw_iconst C dX5_clear_34 ?_
  refine pw_iconst C dX5_clear_35 ?_
  have c_25 := ((o_22 12 (by decide)).trans ((o_18 12 (by decide)).trans ((o_14 12 (by decide)).trans ((o_10 12 (by decide)).trans ((o_6 12 (by decide)).trans (o_2 12 (by decide))))))).trans h.2.2.2.2.1
  refine pw_iast C c_25 ⟨by omega, by omega, by omega⟩ dX5_clear_36 (fun w_28 k_26 o_27 => ?_)
  have c_29 := (o_27 8 (by decide)).trans k_24
  have c_30 := ((o_27 9 (by decide)).trans ((o_22 9 (by decide)).trans ((o_18 9 (by decide)).trans ((o_14 9 (by decide)).trans ((o_10 9 (by decide)).trans ((o_6 9 (by decide)).trans (o_2 9 (by decide)))))))).trans h.2.1
  have c_31 := ((o_27 10 (by decide)).trans ((o_22 10 (by decide)).trans ((o_18 10 (by decide)).trans ((o_14 10 (by decide)).trans ((o_10 10 (by decide)).trans ((o_6 10 (by decide)).trans (o_2 10 (by decide)))))))).trans h.2.2.1
  have c_32 := ((o_27 11 (by decide)).trans ((o_22 11 (by decide)).trans ((o_18 11 (by decide)).trans ((o_14 11 (by decide)).trans ((o_10 11 (by decide)).trans ((o_6 11 (by decide)).trans (o_2 11 (by decide)))))))).trans h.2.2.2.1
  exact pw_vret C hr dX5_clear_37 ⟨rfl, ⟨by rw [c_29] <;> simp [va_up, c_30, c_31, c_32, k_26, (show w_28 2 = w 2 from (o_27 2 (by decide)).trans ((o_22 2 (by decide)).trans ((o_18 2 (by decide)).trans ((o_14 2 (by decide)).trans ((o_10 2 (by decide)).trans ((o_6 2 (by decide)).trans (o_2 2 (by decide))))))))], by rw [c_30] <;> simp [va_up], by rw [c_31] <;> simp [va_up], by rw [c_32] <;> simp [va_up], by rw [k_26] <;> simp [va_up], (rI_up (rI_up (rI_up (rI_up (rI_up (rI_up h.2.2.2.2.2.1 (by omega)) (by omega)) (by omega)) (by omega)) (by omega)) (by omega)), h.2.2.2.2.2.2.1, (rF_up h.2.2.2.2.2.2.2 (upz_inI (h.2.2.2.2.2.2.2 12) (by omega)))⟩, by rw [c_29], fun k hk => (o_27 k (by omega)).trans ((o_22 k (by omega)).trans ((o_18 k (by omega)).trans ((o_14 k (by omega)).trans ((o_10 k (by omega)).trans ((o_6 k (by omega)).trans (o_2 k (by omega)))))))⟩

set_option maxRecDepth 100000 in
set_option maxHeartbeats 4000000 in
/-- Teller.clear -/
theorem m_X7_clear (g : pw_P) (l : Launch) {w : pw_W} {x y : Nat → Int} {z : Nat → Option Nat} {f : Nat → Int → Int} {F : Nat → Nat → Option Nat} (h : Tl g w x y z f F)  : pw_M g l yX7_clear cX7_clear 1 none { frames := 0, cells := 0, slots := 0, locals := 0 } [.ref (w 13).1] w (fun r w' => r = none ∧ Tl g w' (va_up x 2 0) y z f F ∧ (w' 13).1 = (w 13).1 ∧ ∀ k, (k < 13 ∨ 15 < k) → w' k = w k) := by
  refine pw_M.of (by decide) (Nat.le_of_ble_eq_true rfl) rfl ?_
  intro p e s m args below meth c C hr hn
  refine pw_aload_n (i := 0) C dX7_clear_0 rfl rfl (Or.inr ⟨_, rfl⟩) ?_
  refine pw_iconst C dX7_clear_1 ?_
  refine pw_put (j := 2) C cl_X7 fl_X7_23 (by decide) rfl rfl rfl rfl rfl h.1 (Nat.le_of_ble_eq_true rfl) dX7_clear_2 (fun w_3 k_1 o_2 => ?_)
  have k_4 : w_3 13 = ((w 13).1, some (OB 7 [.ref ((w 2).1), .ref ((w 14).1), .int (iZ 0), .ref ((w 15).1), .int (iZ (x 4))])) := k_1
  have c_5 := (o_2 14 (by decide)).trans h.2.1
  have c_6 := (o_2 15 (by decide)).trans h.2.2.1
  exact pw_vret C hr dX7_clear_5 ⟨rfl, ⟨by rw [k_4] <;> simp [va_up, c_5, c_6, (show w_3 2 = w 2 from (o_2 2 (by decide)))], by rw [c_5] <;> simp [va_up], by rw [c_6] <;> simp [va_up], (rI_up h.2.2.2.1 (by omega)), h.2.2.2.2.1, h.2.2.2.2.2⟩, by rw [k_4], fun k hk => (o_2 k (by omega))⟩

set_option maxRecDepth 100000 in
set_option maxHeartbeats 4000000 in
/-- Teller.characterAt -/
theorem m_X7_characterAt (g : pw_P) (l : Launch) {w : pw_W} {x y : Nat → Int} {z : Nat → Option Nat} {f : Nat → Int → Int} {F : Nat → Nat → Option Nat} (h : Tl g w x y z f F) {k : Int} (hk : inI k) (hx : 0 ≤ x 2 ∧ x 2 ≤ 2000) : pw_M g l yX7_characterAt cX7_characterAt 2 (some .int) { frames := 0, cells := 0, slots := 0, locals := 0 } [.ref (w 13).1, .int (iZ k)] w (fun r w' => w = w' ∧ r = some (.int (iZ (if 0 ≤ k ∧ k < x 2 then f 14 k else -1)))) := by
  refine pw_M.of (by decide) (Nat.le_of_ble_eq_true rfl) rfl ?_
  intro p e s m args below meth c C hr hn
  refine pw_iload_n (i := 1) C dX7_characterAt_0 rfl rfl ?_
  refine pw_if_lt (tgt := 21) C (by omega) dX7_characterAt_1 (by decide) (fun h_1 => ?_) (fun h_1 => ?_)
  · refine pw_iconst C dX7_characterAt_21 ?_
    exact pw_iret C hr dX7_characterAt_22 ⟨rfl, by rw [if_neg (by omega)]⟩
  · refine pw_iload_n (i := 1) C dX7_characterAt_4 rfl rfl ?_
    refine pw_aload_n (i := 0) C dX7_characterAt_5 rfl rfl (Or.inr ⟨_, rfl⟩) ?_
    refine pw_get (j := 2) C cl_X7 fl_X7_23 (by decide) rfl h.1 rfl dX7_characterAt_6 ?_
    refine pw_icmp_ge (tgt := 21) C (by omega) (by omega) dX7_characterAt_9 (by decide) (fun h_2 => ?_) (fun h_2 => ?_)
    · refine pw_iconst C dX7_characterAt_21 ?_
      exact pw_iret C hr dX7_characterAt_22 ⟨rfl, by rw [if_neg (by omega)]⟩
    · refine pw_aload_n (i := 0) C dX7_characterAt_12 rfl rfl (Or.inr ⟨_, rfl⟩) ?_
      refine pw_get (j := 1) C cl_X7 fl_X7_9 (by decide) rfl h.1 rfl dX7_characterAt_13 ?_
      refine pw_iload_n (i := 1) C dX7_characterAt_16 rfl rfl ?_
      have g_3 := (h.2.2.2.2.2 14) k
      refine pw_cald C h.2.1 ⟨by omega, by omega, by omega⟩ dX7_characterAt_17 ?_
      refine pw_goto (tgt := 22) C dX7_characterAt_18 (by decide) ?_
      exact pw_iret C hr dX7_characterAt_22 ⟨rfl, by rw [if_pos (by omega)]⟩

set_option maxRecDepth 100000 in
set_option maxHeartbeats 4000000 in
/-- Teller.put -/
theorem m_X7_put (g : pw_P) (l : Launch) {w : pw_W} {x y : Nat → Int} {z : Nat → Option Nat} {f : Nat → Int → Int} {F : Nat → Nat → Option Nat} (h : Tl g w x y z f F) {c0 : Int} (hc : 0 ≤ c0 ∧ c0 < 256) (hx : 0 ≤ x 2 ∧ x 2 ≤ 2000) : pw_M g l yX7_put cX7_put 2 none { frames := 0, cells := 0, slots := 0, locals := 0 } [.ref (w 13).1, .int (iZ c0)] w (fun r w' => r = none ∧ Tl g w' (if x 2 < 2000 then va_up x 2 (x 2 + 1) else x) y z (if x 2 < 2000 then va_up f 14 (upz (f 14) (x 2) c0) else f) F ∧ (w' 13).1 = (w 13).1 ∧ ∀ k, (k < 13 ∨ 15 < k) → w' k = w k) := by
  refine pw_M.of (by decide) (Nat.le_of_ble_eq_true rfl) rfl ?_
  intro p e s m args below meth c C hr hn
  refine pw_aload_n (i := 0) C dX7_put_0 rfl rfl (Or.inr ⟨_, rfl⟩) ?_
  refine pw_get (j := 2) C cl_X7 fl_X7_23 (by decide) rfl h.1 rfl dX7_put_1 ?_
  refine pw_sipush C dX7_put_4 (by decide) ?_
  refine pw_icmp_ge (tgt := 30) C (by omega) (by omega) dX7_put_7 (by decide) (fun h_1 => ?_) (fun h_1 => ?_)
  · exact pw_vret C hr dX7_put_30 ⟨rfl, by rw [if_neg (by omega), if_neg (by omega)]; exact h, rfl, fun _ _ => rfl⟩
  · refine pw_aload_n (i := 0) C dX7_put_10 rfl rfl (Or.inr ⟨_, rfl⟩) ?_
    refine pw_get (j := 1) C cl_X7 fl_X7_9 (by decide) rfl h.1 rfl dX7_put_11 ?_
    refine pw_aload_n (i := 0) C dX7_put_14 rfl rfl (Or.inr ⟨_, rfl⟩) ?_
    refine pw_get (j := 2) C cl_X7 fl_X7_23 (by decide) rfl h.1 rfl dX7_put_15 ?_
    refine pw_iload_n (i := 1) C dX7_put_18 rfl rfl ?_
    refine pw_cast C h.2.1 ⟨by omega, by omega, by omega⟩ (char_nar (by omega)) dX7_put_19 (fun w_4 k_2 o_3 => ?_)
    refine pw_aload_n (i := 0) C dX7_put_20 rfl rfl (Or.inr ⟨_, rfl⟩) ?_
    refine pw_dup C dX7_put_21 rfl ?_
    have c_5 := (o_3 13 (by decide)).trans h.1
    refine pw_get (j := 2) C cl_X7 fl_X7_23 (by decide) rfl c_5 rfl dX7_put_22 ?_
    refine pw_iconst C dX7_put_25 ?_
    refine pw_iadd C dX7_put_26 ?_
    refine pw_put (j := 2) C cl_X7 fl_X7_23 (by decide) rfl rfl rfl rfl rfl c_5 (Nat.le_of_ble_eq_true rfl) dX7_put_27 (fun w_8 k_6 o_7 => ?_)
    have k_9 : w_8 13 = ((w 13).1, some (OB 7 [.ref ((w 2).1), .ref ((w 14).1), .int (iZ ((x 2) + 1)), .ref ((w 15).1), .int (iZ (x 4))])) := k_6
    have c_10 := (o_7 14 (by decide)).trans k_2
    have c_11 := ((o_7 15 (by decide)).trans (o_3 15 (by decide))).trans h.2.2.1
    exact pw_vret C hr dX7_put_30 ⟨rfl, by rw [if_pos (by omega), if_pos (by omega)]; exact ⟨by rw [k_9] <;> simp [va_up, c_10, c_11, (show w_8 2 = w 2 from (o_7 2 (by decide)).trans (o_3 2 (by decide)))], by rw [c_10] <;> simp [va_up], by rw [c_11] <;> simp [va_up], (rI_up h.2.2.2.1 (by omega)), h.2.2.2.2.1, (rF_up h.2.2.2.2.2 (upz_inI (h.2.2.2.2.2 14) (by omega)))⟩, by rw [k_9], fun k hk => (o_7 k (by omega)).trans (o_3 k (by omega))⟩

set_option maxRecDepth 100000 in
set_option maxHeartbeats 4000000 in
/-- Evaluator.clear -/
theorem m_X3_clear (g : pw_P) (l : Launch) {w : pw_W} {x y : Nat → Int} {z : Nat → Option Nat} {f : Nat → Int → Int} {F : Nat → Nat → Option Nat} (h : Ev g w x y z f F)  : pw_M g l yX3_clear cX3_clear 1 none { frames := 0, cells := 0, slots := 0, locals := 0 } [.ref (w 18).1] w (fun r w' => r = none ∧ Ev g w' (va_up (va_up x 5 0) 6 0) y z f F ∧ (w' 18).1 = (w 18).1 ∧ ∀ k, (k < 18 ∨ 19 < k) → w' k = w k) := by
  refine pw_M.of (by decide) (Nat.le_of_ble_eq_true rfl) rfl ?_
  intro p e s m args below meth c C hr hn
  refine pw_aload_n (i := 0) C dX3_clear_0 rfl rfl (Or.inr ⟨_, rfl⟩) ?_
  refine pw_iconst C dX3_clear_1 ?_
  refine pw_put (j := 5) C cl_X3 fl_X3_29 (by decide) rfl rfl rfl rfl rfl h.1 (Nat.le_of_ble_eq_true rfl) dX3_clear_2 (fun w_3 k_1 o_2 => ?_)
  have k_4 : w_3 18 = ((w 18).1, some (OB 3 [.ref ((w 2).1), .ref ((w 16).1), .ref ((w 19).1), .int (iZ (x 3)), .int (iZ (x 4)), .int (iZ 0), .int (iZ (x 6)), .int (iZ (x 7)), .int (iZ (x 8)), .int (iZ (x 9)), va_rf (z 10), .int (iZ (x 11))])) := k_1
  refine pw_aload_n (i := 0) C dX3_clear_5 rfl rfl (Or.inr ⟨_, rfl⟩) ?_
  refine pw_iconst C dX3_clear_6 ?_
  refine pw_put (j := 6) C cl_X3 fl_X3_32 (by decide) rfl rfl rfl rfl rfl k_4 (Nat.le_of_ble_eq_true rfl) dX3_clear_7 (fun w_7 k_5 o_6 => ?_)
  have k_8 : w_7 18 = ((w 18).1, some (OB 3 [.ref ((w 2).1), .ref ((w 16).1), .ref ((w 19).1), .int (iZ (x 3)), .int (iZ (x 4)), .int (iZ 0), .int (iZ 0), .int (iZ (x 7)), .int (iZ (x 8)), .int (iZ (x 9)), va_rf (z 10), .int (iZ (x 11))])) := k_5
  have c_9 := ((o_6 19 (by decide)).trans (o_2 19 (by decide))).trans h.2.1
  exact pw_vret C hr dX3_clear_10 ⟨rfl, ⟨by rw [k_8] <;> simp [va_up, c_9, (show w_7 2 = w 2 from (o_6 2 (by decide)).trans (o_2 2 (by decide))), (show w_7 16 = w 16 from (o_6 16 (by decide)).trans (o_2 16 (by decide)))], by rw [c_9] <;> simp [va_up], (rI_up (rI_up h.2.2.1 (by omega)) (by omega)), h.2.2.2.1, h.2.2.2.2⟩, by rw [k_8], fun k hk => (o_6 k (by omega)).trans (o_2 k (by omega))⟩

set_option maxRecDepth 100000 in
set_option maxHeartbeats 4000000 in
/-- Evaluator.answer -/
theorem m_X3_answer (g : pw_P) (l : Launch) {w : pw_W} {x y : Nat → Int} {z : Nat → Option Nat} {f : Nat → Int → Int} {F : Nat → Nat → Option Nat} (h : Ev g w x y z f F) {v : Int} (hv : inI v) : pw_M g l yX3_answer cX3_answer 2 none { frames := 0, cells := 0, slots := 0, locals := 0 } [.ref (w 18).1, .int (iZ v)] w (fun r w' => r = none ∧ Ev g w' (va_up (va_up x 8 1) 11 v) y z f F ∧ (w' 18).1 = (w 18).1 ∧ ∀ k, (k < 18 ∨ 19 < k) → w' k = w k) := by
  refine pw_M.of (by decide) (Nat.le_of_ble_eq_true rfl) rfl ?_
  intro p e s m args below meth c C hr hn
  refine pw_aload_n (i := 0) C dX3_answer_0 rfl rfl (Or.inr ⟨_, rfl⟩) ?_
  refine pw_iload_n (i := 1) C dX3_answer_1 rfl rfl ?_
  refine pw_put (j := 11) C cl_X3 fl_X3_69 (by decide) rfl rfl rfl rfl rfl h.1 (Nat.le_of_ble_eq_true rfl) dX3_answer_2 (fun w_3 k_1 o_2 => ?_)
  have k_4 : w_3 18 = ((w 18).1, some (OB 3 [.ref ((w 2).1), .ref ((w 16).1), .ref ((w 19).1), .int (iZ (x 3)), .int (iZ (x 4)), .int (iZ (x 5)), .int (iZ (x 6)), .int (iZ (x 7)), .int (iZ (x 8)), .int (iZ (x 9)), va_rf (z 10), .int (iZ v)])) := k_1
  refine pw_aload_n (i := 0) C dX3_answer_5 rfl rfl (Or.inr ⟨_, rfl⟩) ?_
  refine pw_iconst C dX3_answer_6 ?_
  refine pw_put (j := 8) C cl_X3 fl_X3_63 (by decide) rfl rfl rfl rfl rfl k_4 (Nat.le_of_ble_eq_true rfl) dX3_answer_7 (fun w_7 k_5 o_6 => ?_)
  have k_8 : w_7 18 = ((w 18).1, some (OB 3 [.ref ((w 2).1), .ref ((w 16).1), .ref ((w 19).1), .int (iZ (x 3)), .int (iZ (x 4)), .int (iZ (x 5)), .int (iZ (x 6)), .int (iZ (x 7)), .int (iZ 1), .int (iZ (x 9)), va_rf (z 10), .int (iZ v)])) := k_5
  have c_9 := ((o_6 19 (by decide)).trans (o_2 19 (by decide))).trans h.2.1
  exact pw_vret C hr dX3_answer_10 ⟨rfl, ⟨by rw [k_8] <;> simp [va_up, c_9, (show w_7 2 = w 2 from (o_6 2 (by decide)).trans (o_2 2 (by decide))), (show w_7 16 = w 16 from (o_6 16 (by decide)).trans (o_2 16 (by decide)))], by rw [c_9] <;> simp [va_up], (rI_up (rI_up h.2.2.1 (by omega)) (by omega)), h.2.2.2.1, h.2.2.2.2⟩, by rw [k_8], fun k hk => (o_6 k (by omega)).trans (o_2 k (by omega))⟩

set_option maxRecDepth 100000 in
set_option maxHeartbeats 4000000 in
/-- Terms.startWith -/
theorem m_X8_startWith (g : pw_P) (l : Launch) {w : pw_W} {x y : Nat → Int} {z : Nat → Option Nat} {f : Nat → Int → Int} {F : Nat → Nat → Option Nat} (h : Tm g w x y z f F) {v : Int} (hv : inI v) : pw_M g l yX8_startWith cX8_startWith 2 none { frames := 0, cells := 0, slots := 0, locals := 0 } [.ref (w 21).1, .int (iZ v)] w (fun r w' => r = none ∧ Tm g w' (va_up x 3 1) y z (va_up f 22 (upz (f 22) 0 v)) F ∧ (w' 21).1 = (w 21).1 ∧ ∀ k, (k < 21 ∨ 22 < k) → w' k = w k) := by
  refine pw_M.of (by decide) (Nat.le_of_ble_eq_true rfl) rfl ?_
  intro p e s m args below meth c C hr hn
  refine pw_aload_n (i := 0) C dX8_startWith_0 rfl rfl (Or.inr ⟨_, rfl⟩) ?_
  refine pw_get (j := 2) C cl_X8 fl_X8_9 (by decide) rfl h.1 rfl dX8_startWith_1 ?_
  refine pw_iconst C dX8_startWith_4 ?_
  refine pw_iload_n (i := 1) C dX8_startWith_5 rfl rfl ?_
  refine pw_iast C h.2.1 ⟨by omega, by omega, by omega⟩ dX8_startWith_6 (fun w_3 k_1 o_2 => ?_)
  refine pw_aload_n (i := 0) C dX8_startWith_7 rfl rfl (Or.inr ⟨_, rfl⟩) ?_
  refine pw_iconst C dX8_startWith_8 ?_
  have c_4 := (o_2 21 (by decide)).trans h.1
  refine pw_put (j := 3) C cl_X8 fl_X8_27 (by decide) rfl rfl rfl rfl rfl c_4 (Nat.le_of_ble_eq_true rfl) dX8_startWith_9 (fun w_7 k_5 o_6 => ?_)
  have k_8 : w_7 21 = ((w 21).1, some (OB 8 [.ref ((w 2).1), .ref ((w 16).1), .ref ((w 22).1), .int (iZ 1)])) := k_5
  have c_9 := (o_6 22 (by decide)).trans k_1
  exact pw_vret C hr dX8_startWith_12 ⟨rfl, ⟨by rw [k_8] <;> simp [va_up, c_9, (show w_7 2 = w 2 from (o_6 2 (by decide)).trans (o_2 2 (by decide))), (show w_7 16 = w 16 from (o_6 16 (by decide)).trans (o_2 16 (by decide)))], by rw [c_9] <;> simp [va_up], (rI_up h.2.2.1 (by omega)), h.2.2.2.1, (rF_up h.2.2.2.2 (upz_inI (h.2.2.2.2 22) (by omega)))⟩, by rw [k_8], fun k hk => (o_6 k (by omega)).trans (o_2 k (by omega))⟩

set_option maxRecDepth 100000 in
set_option maxHeartbeats 4000000 in
/-- feed -/
theorem m_X9_feed (g : pw_P) (l : Launch) {w : pw_W} {x y : Nat → Int} {z : Nat → Option Nat} {f : Nat → Int → Int} {F : Nat → Nat → Option Nat} (h : Lm g w x y z f F) {a b c1 d e1 : Int} (ha : inI a) (hb : inI b) (hc : inI c1) (hd : inI d) (he : inI e1) : pw_M g l yX9_feed cX9_feed 6 none { frames := 0, cells := 0, slots := 0, locals := 0 } [.ref (w 0).1, .int (iZ a), .int (iZ b), .int (iZ c1), .int (iZ d), .int (iZ e1)] w (fun r w' => r = none ∧ Lm g w' x y z (va_up f 1 (upz (upz (upz (upz (upz (f 1) 0 a) 1 b) 2 c1) 3 d) 4 e1)) F ∧ (w' 0).1 = (w 0).1 ∧ ∀ k, (k < 0 ∨ 1 < k) → w' k = w k) := by
  refine pw_M.of (by decide) (Nat.le_of_ble_eq_true rfl) rfl ?_
  intro p e s m args below meth c C hr hn
  refine pw_aload_n (i := 0) C dX9_feed_0 rfl rfl (Or.inr ⟨_, rfl⟩) ?_
  refine pw_get (j := 0) C cl_X9 fl_X9_9 (by decide) rfl h.1 rfl dX9_feed_1 ?_
  refine pw_iconst C dX9_feed_4 ?_
  refine pw_iload_n (i := 1) C dX9_feed_5 rfl rfl ?_
  refine pw_iast C h.2.1 ⟨by omega, by omega, by omega⟩ dX9_feed_6 (fun w_3 k_1 o_2 => ?_)
  refine pw_aload_n (i := 0) C dX9_feed_7 rfl rfl (Or.inr ⟨_, rfl⟩) ?_
  have c_4 := (o_2 0 (by decide)).trans h.1
  refine pw_get (j := 0) C cl_X9 fl_X9_9 (by decide) rfl c_4 rfl dX9_feed_8 ?_
  refine pw_iconst C dX9_feed_11 ?_
  refine pw_iload_n (i := 2) C dX9_feed_12 rfl rfl ?_
  refine pw_iast C k_1 ⟨by omega, by omega, by omega⟩ dX9_feed_13 (fun w_7 k_5 o_6 => ?_)
  refine pw_aload_n (i := 0) C dX9_feed_14 rfl rfl (Or.inr ⟨_, rfl⟩) ?_
  have c_8 := (o_6 0 (by decide)).trans c_4
  refine pw_get (j := 0) C cl_X9 fl_X9_9 (by decide) rfl c_8 rfl dX9_feed_15 ?_
  refine pw_iconst C dX9_feed_18 ?_
  refine pw_iload_n (i := 3) C dX9_feed_19 rfl rfl ?_
  refine pw_iast C k_5 ⟨by omega, by omega, by omega⟩ dX9_feed_20 (fun w_11 k_9 o_10 => ?_)
  refine pw_aload_n (i := 0) C dX9_feed_21 rfl rfl (Or.inr ⟨_, rfl⟩) ?_
  have c_12 := (o_10 0 (by decide)).trans c_8
  refine pw_get (j := 0) C cl_X9 fl_X9_9 (by decide) rfl c_12 rfl dX9_feed_22 ?_
  refine pw_iconst C dX9_feed_25 ?_
  refine pw_iload C dX9_feed_26 rfl ?_
  refine pw_iast C k_9 ⟨by omega, by omega, by omega⟩ dX9_feed_28 (fun w_15 k_13 o_14 => ?_)
  refine pw_aload_n (i := 0) C dX9_feed_29 rfl rfl (Or.inr ⟨_, rfl⟩) ?_
  have c_16 := (o_14 0 (by decide)).trans c_12
  refine pw_get (j := 0) C cl_X9 fl_X9_9 (by decide) rfl c_16 rfl dX9_feed_30 ?_
  refine pw_iconst C dX9_feed_33 ?_
  refine pw_iload C dX9_feed_34 rfl ?_
  refine pw_iast C k_13 ⟨by omega, by omega, by omega⟩ dX9_feed_36 (fun w_19 k_17 o_18 => ?_)
  have c_20 := (o_18 0 (by decide)).trans c_16
  exact pw_vret C hr dX9_feed_37 ⟨rfl, ⟨by rw [c_20] <;> simp [va_up, k_17, (show w_19 2 = w 2 from (o_18 2 (by decide)).trans ((o_14 2 (by decide)).trans ((o_10 2 (by decide)).trans ((o_6 2 (by decide)).trans (o_2 2 (by decide)))))), (show w_19 8 = w 8 from (o_18 8 (by decide)).trans ((o_14 8 (by decide)).trans ((o_10 8 (by decide)).trans ((o_6 8 (by decide)).trans (o_2 8 (by decide)))))), (show w_19 13 = w 13 from (o_18 13 (by decide)).trans ((o_14 13 (by decide)).trans ((o_10 13 (by decide)).trans ((o_6 13 (by decide)).trans (o_2 13 (by decide)))))), (show w_19 16 = w 16 from (o_18 16 (by decide)).trans ((o_14 16 (by decide)).trans ((o_10 16 (by decide)).trans ((o_6 16 (by decide)).trans (o_2 16 (by decide)))))), (show w_19 18 = w 18 from (o_18 18 (by decide)).trans ((o_14 18 (by decide)).trans ((o_10 18 (by decide)).trans ((o_6 18 (by decide)).trans (o_2 18 (by decide)))))), (show w_19 20 = w 20 from (o_18 20 (by decide)).trans ((o_14 20 (by decide)).trans ((o_10 20 (by decide)).trans ((o_6 20 (by decide)).trans (o_2 20 (by decide))))))], by rw [k_17] <;> simp [va_up], h.2.2.1, h.2.2.2.1, (rF_up h.2.2.2.2 (upz_inI (upz_inI (upz_inI (upz_inI (upz_inI (h.2.2.2.2 1) (by omega)) (by omega)) (by omega)) (by omega)) (by omega)))⟩, by rw [c_20], fun k hk => (o_18 k (by omega)).trans ((o_14 k (by omega)).trans ((o_10 k (by omega)).trans ((o_6 k (by omega)).trans (o_2 k (by omega)))))⟩

set_option maxRecDepth 100000 in
set_option maxHeartbeats 4000000 in
/-- isFull -/
theorem m_X4_isFull (g : pw_P) (l : Launch) {w : pw_W} {x y : Nat → Int} {z : Nat → Option Nat} {f : Nat → Int → Int} {F : Nat → Nat → Option Nat} (h : Fn g w x y z f F)  : pw_M g l yX4_isFull cX4_isFull 1 (some .boolean) { frames := 0, cells := 0, slots := 0, locals := 0 } [.ref (w 16).1] w (fun r w' => w = w' ∧ r = some (.int (iZ (b2i (decide (40 ≤ x 1)))))) := by
  refine pw_M.of (by decide) (Nat.le_of_ble_eq_true rfl) rfl ?_
  intro p e s m args below meth c C hr hn
  have r1 := h.2.2.1 1
  refine pw_aload_n (i := 0) C dX4_isFull_0 rfl rfl (Or.inr ⟨_, rfl⟩) ?_
  refine pw_get (j := 1) C cl_X4 fl_X4_17 (by decide) rfl h.1 rfl dX4_isFull_1 ?_
  refine pw_bipush C dX4_isFull_4 (by decide) ?_
  refine pw_icmp_lt (tgt := 13) C (by omega) (by omega) dX4_isFull_6 (by decide) (fun h_1 => ?_) (fun h_1 => ?_)
  · refine pw_iconst C dX4_isFull_13 ?_
    exact pw_zret C hr (by decide +kernel) dX4_isFull_14 ⟨rfl, by rw [show decide (40 ≤ x 1) = false by simp; omega]; rfl⟩
  · refine pw_iconst C dX4_isFull_9 ?_
    refine pw_goto (tgt := 14) C dX4_isFull_10 (by decide) ?_
    exact pw_zret C hr (by decide +kernel) dX4_isFull_14 ⟨rfl, by rw [show decide (40 ≤ x 1) = true by simp; omega]; rfl⟩

