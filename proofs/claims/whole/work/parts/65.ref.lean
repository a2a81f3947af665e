set_option maxRecDepth 100000 in
set_option maxHeartbeats 4000000 in
/-- slotOf -/
theorem m_X10_slotOf (g : pw_P) (l : Launch) {w : pw_W} {b : Nat} {B : Nat → Nat} {x : Nat → Int} (h0 : w 1000 = (b, some (mdE B x))) {fL fR fH fV fM fE : Int → Int} {t : Int → Ob} {k : Int} (a0 : w 1001 = (B 0, some (AI g 40000 fL))) (a1 : w 1002 = (B 1, some (AI g 40000 fR))) (a5 : w 1006 = (B 5, some (AJ g 40000 fV))) (a8 : w 1009 = (B 8, some (AI g 48000 fM))) (a9 : w 1010 = (B 9, some (AI g 4000 fE))) (u0 : ∀ j, inI (fL j)) (u1 : ∀ j, inI (fR j)) (u5 : ∀ j, inL (fV j)) (u8 : ∀ j, inI (fM j)) (u9 : ∀ j, inI (fE j)) (hnd : ndM fL fR fH fV fM fE t k) (hk : 0 ≤ k ∧ k < 40000) (hsy : fL k = -2 → 0 ≤ fR k ∧ fR k < 4000) : pw_M g l yX10_slotOf cX10_slotOf 2 (some .int) { frames := 1, cells := 0, slots := 0, locals := 25 } [.ref b, .int (iZ k)] w (fun r w' => w = w' ∧ r = some (.int (iZ (hsM fL fR fV fM fE k)))) := by
  refine pw_M.of (by decide) (Nat.le_of_ble_eq_true rfl) rfl ?_
  intro p e s m args below meth c C hr hn
  refine pw_aload_n (i := 0) C dX10_slotOf_0 rfl rfl (Or.inr ⟨_, rfl⟩) ?_
  refine pw_get (j := 0) C cl_X10 fl_X10_8 (by decide) rfl h0 rfl dX10_slotOf_1 ?_
  refine pw_stk (st' := [.ref (B 0)]) rfl ?_
  refine pw_iload_n (i := 1) C dX10_slotOf_4 rfl rfl ?_
  have g_1 := u0 k
  refine pw_iald C a0 ⟨by omega, by omega, by omega⟩ dX10_slotOf_5 ?_
  refine pw_iconst C dX10_slotOf_6 ?_
  refine pw_icmp_ne (tgt := 31) C (by omega) (by omega) dX10_slotOf_7 (by decide) (fun h_2 => ?_) (fun h_2 => ?_)
  · refine pw_aload_n (i := 0) C dX10_slotOf_31 rfl rfl (Or.inr ⟨_, rfl⟩) ?_
    refine pw_get (j := 0) C cl_X10 fl_X10_8 (by decide) rfl h0 rfl dX10_slotOf_32 ?_
    refine pw_stk (st' := [.ref (B 0)]) rfl ?_
    refine pw_iload_n (i := 1) C dX10_slotOf_35 rfl rfl ?_
    have g_3 := u0 k
    refine pw_iald C a0 ⟨by omega, by omega, by omega⟩ dX10_slotOf_36 ?_
    refine pw_bipush C dX10_slotOf_37 (by decide) ?_
    refine pw_icmp_ne (tgt := 70) C (by omega) (by omega) dX10_slotOf_39 (by decide) (fun h_4 => ?_) (fun h_4 => ?_)
    · refine pw_aload_n (i := 0) C dX10_slotOf_70 rfl rfl (Or.inr ⟨_, rfl⟩) ?_
      refine pw_get (j := 0) C cl_X10 fl_X10_8 (by decide) rfl h0 rfl dX10_slotOf_71 ?_
      refine pw_stk (st' := [.ref (B 0)]) rfl ?_
      refine pw_iload_n (i := 1) C dX10_slotOf_74 rfl rfl ?_
      have g_5 := u0 k
      refine pw_iald C a0 ⟨by omega, by omega, by omega⟩ dX10_slotOf_75 ?_
      refine pw_aload_n (i := 0) C dX10_slotOf_76 rfl rfl (Or.inr ⟨_, rfl⟩) ?_
      refine pw_get (j := 1) C cl_X10 fl_X10_14 (by decide) rfl h0 rfl dX10_slotOf_77 ?_
      refine pw_stk (st' := [.ref (B 1), .int (iZ (fL k))]) rfl ?_
      refine pw_iload_n (i := 1) C dX10_slotOf_80 rfl rfl ?_
      have g_6 := u1 k
      refine pw_iald C a1 ⟨by omega, by omega, by omega⟩ dX10_slotOf_81 ?_
      refine pw_callS (As := [.int (iZ (fL k)), .int (iZ (fR k))]) (st := []) C (m_X10_slot g l (l1 := fL k) (r1 := fR k)) my_X10_slot ml_X10_157 rfl ⟨Nat.le_of_ble_eq_true rfl, Nat.le_of_ble_eq_true rfl⟩ ⟨by (try dsimp only); omega, by (try dsimp only); omega⟩ rfl (Nat.le_of_ble_eq_true rfl) dX10_slotOf_82 ?_
      rintro _ _ ⟨rfl, rfl⟩
      have g_7 := slM_in (fL k) (fR k)
      refine pw_stk (st' := [.int (iZ (slM (fL k) (fR k)))]) rfl ?_
      exact pw_iret C hr dX10_slotOf_85 ⟨rfl, by unfold hsM; rw [if_neg (by omega), if_neg (by omega)]⟩
    · refine pw_aload_n (i := 0) C dX10_slotOf_42 rfl rfl (Or.inr ⟨_, rfl⟩) ?_
      refine pw_bipush C dX10_slotOf_43 (by decide) ?_
      refine pw_aload_n (i := 0) C dX10_slotOf_45 rfl rfl (Or.inr ⟨_, rfl⟩) ?_
      refine pw_get (j := 1) C cl_X10 fl_X10_14 (by decide) rfl h0 rfl dX10_slotOf_46 ?_
      refine pw_stk (st' := [.ref (B 1), .int (iZ 12), .ref b]) rfl ?_
      refine pw_iload_n (i := 1) C dX10_slotOf_49 rfl rfl ?_
      have g_8 := u1 k
      refine pw_iald C a1 ⟨by omega, by omega, by omega⟩ dX10_slotOf_50 ?_
      refine pw_imul C dX10_slotOf_51 ?_
      refine pw_aload_n (i := 0) C dX10_slotOf_52 rfl rfl (Or.inr ⟨_, rfl⟩) ?_
      refine pw_get (j := 9) C cl_X10 fl_X10_37 (by decide) rfl h0 rfl dX10_slotOf_53 ?_
      refine pw_stk (st' := [.ref (B 9), .int (iZ (12 * fR k)), .ref b]) rfl ?_
      refine pw_aload_n (i := 0) C dX10_slotOf_56 rfl rfl (Or.inr ⟨_, rfl⟩) ?_
      refine pw_get (j := 1) C cl_X10 fl_X10_14 (by decide) rfl h0 rfl dX10_slotOf_57 ?_
      refine pw_stk (st' := [.ref (B 1), .ref (B 9), .int (iZ (12 * fR k)), .ref b]) rfl ?_
      refine pw_iload_n (i := 1) C dX10_slotOf_60 rfl rfl ?_
      have g_9 := u1 k
      refine pw_iald C a1 ⟨by omega, by omega, by omega⟩ dX10_slotOf_61 ?_
      have hsl0 := hsy (by omega)
      refine pw_iald C a9 ⟨by omega, by omega, by omega⟩ dX10_slotOf_62 ?_
      refine pw_iconst C dX10_slotOf_63 ?_
      obtain ⟨-, d2, d3, -, -, -⟩ := hnd.resolve_left (fun d => by omega) |>.resolve_right (fun d => by omega)
      have hsl := hsy (by omega)
      refine pw_callV (As := [.int (iZ (12 * fR k)), .int (iZ (((fE (fR k)).toNat : Nat) : Int)), .int (iZ 0)]) (st := []) C (sp_name g l h0 a8 u8 (fr := 12 * fR k) (m1 := (fE (fR k)).toNat) (by omega)) my_X10_spelled ml_X10_161 (pw_rec.of C h0 cl_X10.1) rfl ⟨Nat.le_of_ble_eq_true rfl, Nat.le_of_ble_eq_true rfl⟩ ⟨by (try dsimp only); omega, by (try dsimp only); omega⟩ (by rw [show (((fE (fR k)).toNat : Nat) : Int) = fE (fR k) by omega]; rfl) (Nat.le_of_ble_eq_true rfl) dX10_slotOf_64 ?_
      rintro _ _ ⟨rfl, rfl⟩
      refine pw_stk (st' := [.int (iZ (shW fM (12 * fR k) (fE (fR k)).toNat % 8192))]) rfl ?_
      refine pw_goto (tgt := 85) C dX10_slotOf_67 (by decide) ?_
      exact pw_iret C hr dX10_slotOf_85 ⟨rfl, by unfold hsM; rw [if_neg (by omega), if_pos (by omega)]⟩
  · refine pw_aload_n (i := 0) C dX10_slotOf_10 rfl rfl (Or.inr ⟨_, rfl⟩) ?_
    refine pw_get (j := 5) C cl_X10 fl_X10_26 (by decide) rfl h0 rfl dX10_slotOf_11 ?_
    refine pw_stk (st' := [.ref (B 5)]) rfl ?_
    refine pw_iload_n (i := 1) C dX10_slotOf_14 rfl rfl ?_
    have g_10 := u5 k
    refine pw_lald C a5 ⟨by omega, by omega, by omega⟩ dX10_slotOf_15 ?_
    refine pw_l2i C dX10_slotOf_16 ?_
    refine pw_aload_n (i := 0) C dX10_slotOf_17 rfl rfl (Or.inr ⟨_, rfl⟩) ?_
    refine pw_get (j := 5) C cl_X10 fl_X10_26 (by decide) rfl h0 rfl dX10_slotOf_18 ?_
    refine pw_stk (st' := [.ref (B 5), .int (iZ (fV k))]) rfl ?_
    refine pw_iload_n (i := 1) C dX10_slotOf_21 rfl rfl ?_
    have g_11 := u5 k
    refine pw_lald C a5 ⟨by omega, by omega, by omega⟩ dX10_slotOf_22 ?_
    refine pw_bipush C dX10_slotOf_23 (by decide) ?_
    refine pw_lshr (z := hiV (fV k)) C dX10_slotOf_25 (Int64.ofInt_toInt _).symm ?_
    refine pw_l2i C dX10_slotOf_26 ?_
    refine pw_callS (As := [.int (iZ (fV k)), .int (iZ (hiV (fV k)))]) (st := []) C (m_X10_slot g l (l1 := fV k) (r1 := (hiV (fV k)))) my_X10_slot ml_X10_157 rfl ⟨Nat.le_of_ble_eq_true rfl, Nat.le_of_ble_eq_true rfl⟩ ⟨by (try dsimp only); omega, by (try dsimp only); omega⟩ rfl (Nat.le_of_ble_eq_true rfl) dX10_slotOf_27 ?_
    rintro _ _ ⟨rfl, rfl⟩
    have g_12 := slM_in (fV k) (hiV (fV k))
    refine pw_stk (st' := [.int (iZ (slM (fV k) (hiV (fV k))))]) rfl ?_
    exact pw_iret C hr dX10_slotOf_30 ⟨rfl, by unfold hsM; rw [if_pos (by omega)]; rfl⟩

set_option maxRecDepth 100000 in
set_option maxHeartbeats 4000000 in
/-- forget -/
theorem m_X10_forget (g : pw_P) (l : Launch) {w : pw_W} {b : Nat} {B : Nat → Nat} {x : Nat → Int} (h0 : w 1000 = (b, some (mdE B x))) {t : Int → Ob} {n : Int} {sN : Nat} {fZ : Int → Int} (hR : RS g w B t n sN fZ) (h7 : x 7 = n) (h10 : x 10 = ((sN : Nat) : Int)) {q : Int} (hq : 0 ≤ q ∧ q ≤ n) : pw_M g l yX10_forget cX10_forget 2 none { frames := 2, cells := 0, slots := 0, locals := 46 } [.ref b, .int (iZ q)] w (fun r w' => r = none ∧ (∃ s' : Nat, w' 1000 = (b, some (mdE B (va_up (va_up x 7 q) 10 ((s' : Nat) : Int)))) ∧ RS g w' B t q s' fZ ∧ s' ≤ sN) ∧ ∀ k, (k < 1000 ∨ 1010 < k ∨ k = 1008) → w' k = w k) := by
  refine pw_M.of (by decide) (Nat.le_of_ble_eq_true rfl) rfl ?_
  intro p e s m args below meth c C hr hn
  have loop : ∀ (kk : Nat) (w1 : pw_W) (n1 : Int) (s1 : Nat), n1 = q + kk → RS g w1 B t n1 s1 fZ → w1 1000 = (b, some (mdE B (va_up (va_up x 7 n1) 10 ((s1 : Nat) : Int)))) → s1 ≤ sN → 0 ≤ q → (∀ k, (k < 1000 ∨ 1010 < k ∨ k = 1008) → w1 k = w k) → pw_G g p l e { frames := 2, cells := 0, slots := 0, locals := 46 } s m args below meth c 2 (pw_Q g below (fun r w' => r = none ∧ (∃ s' : Nat, w' 1000 = (b, some (mdE B (va_up (va_up x 7 q) 10 ((s' : Nat) : Int)))) ∧ RS g w' B t q s' fZ ∧ s' ≤ sN) ∧ ∀ k, (k < 1000 ∨ 1010 < k ∨ k = 1008) → w' k = w k) args s { frames := 2, cells := 0, slots := 0, locals := 46 }) 0 0 0 [(0, .ref b), (1, .int (iZ q))] [] w1 := by
    intro kk
    induction kk with
    | zero =>
      intro w1 n1 s1 hk hR1 y0 hss hq0 hf1
      obtain ⟨fL, fR, fN, fH, fV, fD, fM, fE, a0, a1, a2, a3, a4, a5, a6, a8, a9, ⟨u0, u1, u2, u3, u4, u5, u6, u8, u9⟩, hn, hs, hs4, hC⟩ := id hR1
      refine pw_aload_n (i := 0) C dX10_forget_0 rfl rfl (Or.inr ⟨_, rfl⟩) ?_
      refine pw_get (j := 7) C cl_X10 fl_X10_165 (by decide) rfl y0 rfl dX10_forget_1 ?_
      refine pw_stk (st' := [.int (iZ n1)]) rfl ?_
      refine pw_iload_n (i := 1) C dX10_forget_4 rfl rfl ?_
      refine pw_icmp_le (tgt := 67) C (by omega) (by omega) dX10_forget_5 (by decide) (fun h_11 => ?_) (fun h_11 => ?_)
      · have hqn : n1 = q := by omega
        subst hqn
        exact pw_vret C hr dX10_forget_67 ⟨rfl, ⟨s1, y0, hR1, by omega⟩, hf1⟩
      · exfalso; omega
    | succ kk ih =>
      intro w1 n1 s1 hk hR1 y0 hss hq0 hf1
      obtain ⟨fL, fR, fN, fH, fV, fD, fM, fE, a0, a1, a2, a3, a4, a5, a6, a8, a9, ⟨u0, u1, u2, u3, u4, u5, u6, u8, u9⟩, hn, hs, hs4, hC⟩ := id hR1
      refine pw_aload_n (i := 0) C dX10_forget_0 rfl rfl (Or.inr ⟨_, rfl⟩) ?_
      refine pw_get (j := 7) C cl_X10 fl_X10_165 (by decide) rfl y0 rfl dX10_forget_1 ?_
      refine pw_stk (st' := [.int (iZ n1)]) rfl ?_
      refine pw_iload_n (i := 1) C dX10_forget_4 rfl rfl ?_
      refine pw_icmp_le (tgt := 67) C (by omega) (by omega) dX10_forget_5 (by decide) (fun h_31 => ?_) (fun h_31 => ?_)
      · exfalso; omega
      · refine pw_aload_n (i := 0) C dX10_forget_8 rfl rfl (Or.inr ⟨_, rfl⟩) ?_
        refine pw_dup C dX10_forget_9 rfl ?_
        refine pw_get (j := 7) C cl_X10 fl_X10_165 (by decide) rfl y0 rfl dX10_forget_10 ?_
        refine pw_stk (st' := [.int (iZ n1), .ref b]) rfl ?_
        refine pw_iconst C dX10_forget_13 ?_
        refine pw_isub C dX10_forget_14 ?_
        refine pw_put (j := 7) C cl_X10 fl_X10_165 (by decide) rfl rfl rfl rfl rfl y0 (Nat.le_of_ble_eq_true rfl) dX10_forget_15 (fun w_34 k_32 o_33 => ?_)
        have k_35 : w_34 1000 = (b, some (mdE B (va_up (va_up (va_up x 7 n1) 10 ((s1 : Nat) : Int)) 7 (n1 - 1)))) := k_32
        refine pw_aload_n (i := 0) C dX10_forget_18 rfl rfl (Or.inr ⟨_, rfl⟩) ?_
        refine pw_get (j := 6) C cl_X10 fl_X10_30 (by decide) rfl k_35 rfl dX10_forget_19 ?_
        refine pw_stk (st' := [.ref (B 6)]) rfl ?_
        refine pw_aload_n (i := 0) C dX10_forget_22 rfl rfl (Or.inr ⟨_, rfl⟩) ?_
        refine pw_aload_n (i := 0) C dX10_forget_23 rfl rfl (Or.inr ⟨_, rfl⟩) ?_
        refine pw_get (j := 7) C cl_X10 fl_X10_165 (by decide) rfl k_35 rfl dX10_forget_24 ?_
        refine pw_stk (st' := [.int (iZ (n1 - 1)), .ref b, .ref (B 6)]) rfl ?_
        have c_36 := (o_33 1001 (by omega)).trans a0
        have c_37 := (o_33 1002 (by omega)).trans a1
        have c_38 := (o_33 1006 (by omega)).trans a5
        have c_39 := (o_33 1009 (by omega)).trans a8
        have c_40 := (o_33 1010 (by omega)).trans a9
        have hnd := hC.1 (n1 - 1) (by omega) (by omega)
        have hsy : fL (n1 - 1) = -2 → (0 ≤ fR (n1 - 1) ∧ fR (n1 - 1) < 4000) := by
          intro hq2
          obtain ⟨-, d2, -⟩ := hnd.resolve_left (fun d => by omega) |>.resolve_right (fun d => by omega)
          have := symC_lt (f := fL) (i := (n1 - 1).toNat) (j := n1.toNat) (by omega) (by rw [show (((n1 - 1).toNat : Nat) : Int) = n1 - 1 by omega]; exact hq2)
          omega
        refine pw_callV (As := [.int (iZ (n1 - 1))]) (st := [.ref (B 6)]) C (m_X10_slotOf g l k_35 c_36 c_37 c_38 c_39 c_40 u0 u1 u5 u8 u9 hnd (by omega) hsy) my_X10_slotOf ml_X10_179 (pw_rec.of C k_35 cl_X10.1) rfl ⟨Nat.le_of_ble_eq_true rfl, Nat.le_of_ble_eq_true rfl⟩ ⟨by (try dsimp only); omega, by (try dsimp only); omega⟩ rfl (Nat.le_of_ble_eq_true rfl) dX10_forget_27 ?_
        rintro _ _ ⟨rfl, rfl⟩
        have hsi := hsM_in fL fR fV fM fE (n1 - 1)
        refine pw_stk (st' := [.int (iZ ((hsM fL fR fV fM fE) (n1 - 1))), .ref (B 6)]) rfl ?_
        refine pw_aload_n (i := 0) C dX10_forget_30 rfl rfl (Or.inr ⟨_, rfl⟩) ?_
        refine pw_get (j := 2) C cl_X10 fl_X10_17 (by decide) rfl k_35 rfl dX10_forget_31 ?_
        refine pw_stk (st' := [.ref (B 2), .int (iZ ((hsM fL fR fV fM fE) (n1 - 1))), .ref (B 6)]) rfl ?_
        refine pw_aload_n (i := 0) C dX10_forget_34 rfl rfl (Or.inr ⟨_, rfl⟩) ?_
        refine pw_get (j := 7) C cl_X10 fl_X10_165 (by decide) rfl k_35 rfl dX10_forget_35 ?_
        refine pw_stk (st' := [.int (iZ (n1 - 1)), .ref (B 2), .int (iZ ((hsM fL fR fV fM fE) (n1 - 1))), .ref (B 6)]) rfl ?_
        have c_41 := (o_33 1003 (by omega)).trans a2
        have g_42 := u2 (n1 - 1)
        refine pw_iald C c_41 ⟨by omega, by omega, by omega⟩ dX10_forget_38 ?_
        have c_43 := (o_33 1007 (by omega)).trans a6
        refine pw_iast C c_43 ⟨by omega, by omega, by omega⟩ dX10_forget_39 (fun w_46 k_44 o_45 => ?_)
        refine pw_aload_n (i := 0) C dX10_forget_40 rfl rfl (Or.inr ⟨_, rfl⟩) ?_
        have c_47 := (o_45 1000 (by omega)).trans k_35
        refine pw_get (j := 0) C cl_X10 fl_X10_8 (by decide) rfl c_47 rfl dX10_forget_41 ?_
        refine pw_stk (st' := [.ref (B 0)]) rfl ?_
        refine pw_aload_n (i := 0) C dX10_forget_44 rfl rfl (Or.inr ⟨_, rfl⟩) ?_
        refine pw_get (j := 7) C cl_X10 fl_X10_165 (by decide) rfl c_47 rfl dX10_forget_45 ?_
        refine pw_stk (st' := [.int (iZ (n1 - 1)), .ref (B 0)]) rfl ?_
        have c_48 := (o_45 1001 (by omega)).trans c_36
        have g_49 := u0 (n1 - 1)
        refine pw_iald C c_48 ⟨by omega, by omega, by omega⟩ dX10_forget_48 ?_
        refine pw_bipush C dX10_forget_49 (by decide) ?_
        refine pw_icmp_ne (tgt := 0) C (by omega) (by omega) dX10_forget_51 (by decide) (fun h_50 => ?_) (fun h_50 => ?_)
        · have c_51 := (o_45 1002 (by omega)).trans c_37
          have c_52 := (o_45 1003 (by omega)).trans c_41
          have c_53 := ((o_45 1004 (by omega)).trans (o_33 1004 (by omega))).trans a3
          have c_54 := ((o_45 1005 (by omega)).trans (o_33 1005 (by omega))).trans a4
          have c_55 := (o_45 1006 (by omega)).trans c_38
          have c_56 := (o_45 1009 (by omega)).trans c_39
          have c_57 := (o_45 1010 (by omega)).trans c_40
          have hsc : symC fL n1.toNat = symC fL (n1 - 1).toNat + 0 := by rw [show n1.toNat = (n1 - 1).toNat + 1 by omega, symC, show (((n1 - 1).toNat : Nat) : Int) = n1 - 1 by omega, if_neg (by omega)]
          exact ih w_46 (n1 - 1) s1 (by omega) ⟨fL, fR, fN, fH, fV, _, fM, fE, c_48, c_51, c_52, c_53, c_54, c_55, k_44, c_56, c_57, ⟨u0, u1, u2, u3, u4, u5, upz_inI u6 (u2 _), u8, u9⟩, by omega, by omega, by omega, hC.pop (by omega)⟩ (by rw [c_47]; rfl) (by omega) (by omega) (fun k hk => ((o_45 k (by omega)).trans (o_33 k (by omega))).trans (hf1 k hk))
        · refine pw_aload_n (i := 0) C dX10_forget_54 rfl rfl (Or.inr ⟨_, rfl⟩) ?_
          refine pw_dup C dX10_forget_55 rfl ?_
          refine pw_get (j := 10) C cl_X10 fl_X10_176 (by decide) rfl c_47 rfl dX10_forget_56 ?_
          refine pw_stk (st' := [.int (iZ ((s1 : Nat) : Int)), .ref b]) rfl ?_
          refine pw_iconst C dX10_forget_59 ?_
          refine pw_isub C dX10_forget_60 ?_
          refine pw_put (j := 10) C cl_X10 fl_X10_176 (by decide) rfl rfl rfl rfl rfl c_47 (Nat.le_of_ble_eq_true rfl) dX10_forget_61 (fun w_60 k_58 o_59 => ?_)
          have k_61 : w_60 1000 = (b, some (mdE B (va_up (va_up (va_up (va_up x 7 n1) 10 ((s1 : Nat) : Int)) 7 (n1 - 1)) 10 (((s1 : Nat) : Int) - 1)))) := k_58
          refine pw_goto (tgt := 0) C dX10_forget_64 (by decide) ?_
          have c_62 := (o_59 1001 (by omega)).trans c_48
          have c_63 := ((o_59 1002 (by omega)).trans (o_45 1002 (by omega))).trans c_37
          have c_64 := ((o_59 1003 (by omega)).trans (o_45 1003 (by omega))).trans c_41
          have c_65 := ((o_59 1004 (by omega)).trans ((o_45 1004 (by omega)).trans (o_33 1004 (by omega)))).trans a3
          have c_66 := ((o_59 1005 (by omega)).trans ((o_45 1005 (by omega)).trans (o_33 1005 (by omega)))).trans a4
          have c_67 := ((o_59 1006 (by omega)).trans (o_45 1006 (by omega))).trans c_38
          have c_68 := (o_59 1007 (by omega)).trans k_44
          have c_69 := ((o_59 1009 (by omega)).trans (o_45 1009 (by omega))).trans c_39
          have c_70 := ((o_59 1010 (by omega)).trans (o_45 1010 (by omega))).trans c_40
          have hsc : symC fL n1.toNat = symC fL (n1 - 1).toNat + 1 := by rw [show n1.toNat = (n1 - 1).toNat + 1 by omega, symC, show (((n1 - 1).toNat : Nat) : Int) = n1 - 1 by omega, if_pos (by omega)]
          exact ih w_60 (n1 - 1) (s1 - 1) (by omega) ⟨fL, fR, fN, fH, fV, _, fM, fE, c_62, c_63, c_64, c_65, c_66, c_67, c_68, c_69, c_70, ⟨u0, u1, u2, u3, u4, u5, upz_inI u6 (u2 _), u8, u9⟩, by omega, by omega, by omega, hC.pop (by omega)⟩ (by rw [k_61, show (((s1 - 1 : Nat) : Int)) = ((s1 : Nat) : Int) - 1 by omega]; rfl) (by omega) (by omega) (fun k hk => ((o_59 k (by omega)).trans ((o_45 k (by omega)).trans (o_33 k (by omega)))).trans (hf1 k hk))
  exact loop (n - q).toNat w n sN (by omega) hR (by rw [← h7, ← h10]; exact h0) (Nat.le_refl _) hq.1 (fun _ _ => rfl)

set_option maxRecDepth 100000 in
set_option maxHeartbeats 4000000 in
/-- spell -/
theorem m_X10_spell (g : pw_P) (l : Launch) {w : pw_W} {b : Nat} {B : Nat → Nat} {x : Nat → Int} (h0 : w 1000 = (b, some (mdE B x))) {fW : Int → Int} {m1 c0 : Int} (h17 : x 17 = m1) (a16 : w 1017 = (B 16, some (AI g 12 fW))) (u16 : ∀ j, inI (fW j)) (hm : 0 ≤ m1 ∧ m1 < 12) (hc : inI c0) (hc0 : c0 ≠ 0) : pw_M g l yX10_spell cX10_spell 2 none { frames := 0, cells := 0, slots := 0, locals := 0 } [.ref b, .int (iZ c0)] w (fun r w' => r = none ∧ w' 1000 = (b, some (mdE B (va_up x 17 (m1 + 1)))) ∧ w' 1017 = (B 16, some (AI g 12 (upz fW m1 c0))) ∧ ∀ k, (k ≠ 1000 ∧ k ≠ 1017) → w' k = w k) := by
  refine pw_M.of (by decide) (Nat.le_of_ble_eq_true rfl) rfl ?_
  intro p e s m args below meth c C hr hn
  refine pw_iload_n (i := 1) C dX10_spell_0 rfl rfl ?_
  refine pw_if_ne (tgt := 5) C (by omega) dX10_spell_1 (by decide) (fun h_1 => ?_) (fun h_1 => ?_)
  · refine pw_aload_n (i := 0) C dX10_spell_5 rfl rfl (Or.inr ⟨_, rfl⟩) ?_
    refine pw_get (j := 16) C cl_X10 fl_X10_49 (by decide) rfl h0 rfl dX10_spell_6 ?_
    refine pw_stk (st' := [.ref (B 16)]) rfl ?_
    refine pw_aload_n (i := 0) C dX10_spell_9 rfl rfl (Or.inr ⟨_, rfl⟩) ?_
    refine pw_get (j := 17) C cl_X10 fl_X10_145 (by decide) rfl h0 rfl dX10_spell_10 ?_
    refine pw_stk (st' := [.int (iZ m1), .ref (B 16)]) (by rw [h17]) ?_
    refine pw_iload_n (i := 1) C dX10_spell_13 rfl rfl ?_
    refine pw_iast C a16 ⟨by omega, by omega, by omega⟩ dX10_spell_14 (fun w_4 k_2 o_3 => ?_)
    refine pw_aload_n (i := 0) C dX10_spell_15 rfl rfl (Or.inr ⟨_, rfl⟩) ?_
    refine pw_dup C dX10_spell_16 rfl ?_
    have c_5 := (o_3 1000 (by omega)).trans h0
    refine pw_get (j := 17) C cl_X10 fl_X10_145 (by decide) rfl c_5 rfl dX10_spell_17 ?_
    refine pw_stk (st' := [.int (iZ m1), .ref b]) (by rw [h17]) ?_
    refine pw_iconst C dX10_spell_20 ?_
    refine pw_iadd C dX10_spell_21 ?_
    refine pw_put (j := 17) C cl_X10 fl_X10_145 (by decide) rfl rfl rfl rfl rfl c_5 (Nat.le_of_ble_eq_true rfl) dX10_spell_22 (fun w_8 k_6 o_7 => ?_)
    have k_9 : w_8 1000 = (b, some (mdE B (va_up x 17 (m1 + 1)))) := k_6
    have c_10 := (o_7 1017 (by omega)).trans k_2
    exact pw_vret C hr dX10_spell_25 ⟨rfl, k_9, c_10, fun k hk => (o_7 k (by omega)).trans (o_3 k (by omega))⟩
  · exact absurd (show c0 = 0 by omega) hc0

