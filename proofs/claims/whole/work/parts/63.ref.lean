set_option maxRecDepth 100000 in
set_option maxHeartbeats 4000000 in
/-- natural -/
theorem m_X10_natural (g : pw_P) (l : Launch) {w : pw_W} {b : Nat} {B : Nat → Nat} {x : Nat → Int} (h0 : w 1000 = (b, some (mdE B x))) {t : Int → Ob} {n : Int} {sN : Nat} {fZ : Int → Int} (hR : RS g w B t n sN fZ) (h7 : x 7 = n) (h10 : x 10 = ((sN : Nat) : Int)) {v : Nat} (hv : v < 4611686018427387904) (hcap : n < 40000) : pw_M g l yX10_natural cX10_natural 5 (some .int) { frames := 1, cells := 0, slots := 0, locals := 23 } [.ref b, .long (lZ ((v : Nat) : Int))] w (fun r w' => rNew g w w' b B x t n sN 0 fZ (.arg v) r) := by
  refine pw_M.of (by decide) (Nat.le_of_ble_eq_true rfl) rfl ?_
  intro p e s m args below meth c C hr hn
  obtain ⟨fL, fR, fN, fH, fV, fD, fM, fE, a0, a1, a2, a3, a4, a5, a6, a8, a9, ⟨u0, u1, u2, u3, u4, u5, u6, u8, u9⟩, hn, hs, hs4, hC⟩ := id hR
  have hsl : 0 ≤ (slV ((v : Nat) : Int)) ∧ (slV ((v : Nat) : Int)) < 8192 := slM_in _ _
  have loop : ∀ (mm m1 : Nat), m1 ≤ mm → (m1 : Int) ≤ n → (∀ j : Int, (m1 : Int) ≤ j → j < n → (hsM fL fR fV fM fE) j = (slV ((v : Nat) : Int)) → ¬ (fun j => fL j = -1 ∧ fV j = ((v : Nat) : Int)) j) → pw_G g p l e { frames := 1, cells := 0, slots := 0, locals := 23 } s m args below meth c 5 (pw_Q g below (fun r w' => rNew g w w' b B x t n sN 0 fZ (.arg v) r) args s { frames := 1, cells := 0, slots := 0, locals := 23 }) 0 0 19 [(0, .ref b), (1, .long (lZ ((v : Nat) : Int))), (3, .int (iZ (slV ((v : Nat) : Int)))), (4, .int (iZ (lsH (hsM fL fR fV fM fE) (slV ((v : Nat) : Int)) m1)))] [] w := by
    intro mm
    induction mm with
    | zero =>
      intro m1 hm hmn hno
      obtain rfl : m1 = 0 := by omega
      have hin := lsH_in (hsM fL fR fV fM fE) (slV ((v : Nat) : Int)) 0
      refine pw_iload C dX10_natural_19 rfl ?_
      refine pw_iconst C dX10_natural_21 ?_
      refine pw_icmp_eq (tgt := 63) C (by omega) (by omega) dX10_natural_22 (by decide) (fun h_301 => ?_) (fun h_301 => ?_)
      · have hend := lsH_end (Q := (fun j => fL j = -1 ∧ fV j = ((v : Nat) : Int))) (by omega) hno
        have hX : ∀ k : Int, 0 ≤ k → k < n → t k ≠ .arg v := by
          intro k k0 k1 e
          rcases hC.1 k k0 k1 with d | d | d
          · rw [d.2.2.2.1] at e
            have e1 : (fV k).toNat = v := Term.arg.inj e
            have e2 : fV k = ((v : Nat) : Int) := by have := d.2.1; omega
            exact hend k k0 k1 (by unfold hsM; rw [if_pos d.1, e2]) ⟨d.1, e2⟩
          · rw [d.2.2.2.2.1] at e; cases e
          · rw [d.2.2.2.2.1] at e; cases e
        refine pw_aload_n (i := 0) C dX10_natural_63 rfl rfl (Or.inr ⟨_, rfl⟩) ?_
        refine pw_get (j := 5) C cl_X10 fl_X10_26 (by decide) rfl h0 rfl dX10_natural_64 ?_
        refine pw_stk (st' := [.ref (B 5)]) rfl ?_
        refine pw_aload_n (i := 0) C dX10_natural_67 rfl rfl (Or.inr ⟨_, rfl⟩) ?_
        refine pw_get (j := 7) C cl_X10 fl_X10_165 (by decide) rfl h0 rfl dX10_natural_68 ?_
        refine pw_stk (st' := [.int (iZ n), .ref (B 5)]) (by rw [h7]) ?_
        refine pw_lload_n (i := 1) C dX10_natural_71 rfl rfl ?_
        refine pw_last C a5 ⟨by omega, by omega, by omega⟩ dX10_natural_72 (fun w_304 k_302 o_303 => ?_)
        refine pw_aload_n (i := 0) C dX10_natural_73 rfl rfl (Or.inr ⟨_, rfl⟩) ?_
        refine pw_iconst C dX10_natural_74 ?_
        refine pw_iconst C dX10_natural_75 ?_
        refine pw_iload_n (i := 3) C dX10_natural_76 rfl rfl ?_
        have c_305 := (o_303 1000 (by omega)).trans h0
        have c_306 := (o_303 1001 (by omega)).trans a0
        have c_307 := (o_303 1002 (by omega)).trans a1
        have c_308 := (o_303 1003 (by omega)).trans a2
        have c_309 := (o_303 1004 (by omega)).trans a3
        have c_310 := (o_303 1005 (by omega)).trans a4
        have c_311 := (o_303 1007 (by omega)).trans a6
        refine pw_callV (As := [.int (iZ (-1)), .int (iZ 0), .int (iZ (slV ((v : Nat) : Int)))]) (st := []) C (m_X10_added g l c_305 (n := n) (by exact h7) c_306 c_307 c_308 c_309 c_310 c_311 u0 u1 u2 u3 u4 u6 (l1 := (-1)) (r1 := 0) (h1 := (slV ((v : Nat) : Int))) (by omega) (by omega) (by omega) (by omega) (by omega)) my_X10_added ml_X10_168 (pw_rec.of C c_305 cl_X10.1) rfl ⟨Nat.le_of_ble_eq_true rfl, Nat.le_of_ble_eq_true rfl⟩ ⟨by (try dsimp only); omega, by (try dsimp only); omega⟩ rfl (Nat.le_of_ble_eq_true rfl) dX10_natural_77 ?_
        rintro _ w_312 ⟨rfl, e0, e1, e2, e3, e4, e5, e7, eo⟩
        refine pw_stk (st' := [.int (iZ n)]) rfl ?_
        have c_313 := (eo 1006 (by omega)).trans k_302
        have c_314 := ((eo 1009 (by omega)).trans (o_303 1009 (by omega))).trans a8
        have c_315 := ((eo 1010 (by omega)).trans (o_303 1010 (by omega))).trans a9
        refine pw_iret C hr dX10_natural_80 ⟨n, tUp t n (.arg v), n + 1, sN, upz fZ n 0, rfl, ?_, ⟨upz fL n (-1), upz fR n 0, upz fN n (fD (slV ((v : Nat) : Int))), upz fH n _, upz fV n ((v : Nat) : Int), upz fD (slV ((v : Nat) : Int)) n, fM, fE, e1, e2, e3, e4, e5, c_313, e7, c_314, c_315, ⟨upz_inI u0 (by decide), upz_inI u1 (by decide), upz_inI u2 (u6 _), upz_inI u3 (by decide), upz_inI u4 (by rw [if_pos (by decide)]; decide), upz_inL u5 (by omega), upz_inI u6 (by omega), u8, u9⟩, by omega, ?_, hs4, hC.push hn.1 (fun j j0 j1 => upz_ne _ _ (by omega)) (fun _ _ _ => ⟨rfl, fun _ _ _ => rfl⟩) hX ?_ ?_⟩, tUp_ext, by omega, by omega, fun j j0 j1 => upz_ne _ _ (by omega), ⟨hn.1, by omega, tUp_self _ _ _⟩, fun k hk => (eo k (by omega)).trans (o_303 k (by omega))⟩
        · rw [e0, ← h10]; rfl
        · rw [hs, show (n + 1).toNat = n.toNat + 1 by omega, symC, show ((n.toNat : Nat) : Int) = n by omega, upz_self, if_neg (by decide), Nat.add_zero, symC_eq (f := fL) _ (fun m m0 m1 => upz_ne _ _ (by omega))]
        · unfold ndM; rw [upz_self, upz_self, upz_self, upz_self, tUp_self]
          exact Or.inl ⟨rfl, by omega, by omega, by rw [Int.toNat_natCast], rfl⟩
        · unfold hsM; rw [upz_self, upz_self, if_pos rfl]
      · exfalso; omega
    | succ mm ih =>
      intro m1 hm hmn hno
      have hin := lsH_in (hsM fL fR fV fM fE) (slV ((v : Nat) : Int)) m1
      refine pw_iload C dX10_natural_19 rfl ?_
      refine pw_iconst C dX10_natural_21 ?_
      refine pw_icmp_eq (tgt := 63) C (by omega) (by omega) dX10_natural_22 (by decide) (fun h_31 => ?_) (fun h_31 => ?_)
      · have hend := lsH_end (Q := (fun j => fL j = -1 ∧ fV j = ((v : Nat) : Int))) (by omega) hno
        have hX : ∀ k : Int, 0 ≤ k → k < n → t k ≠ .arg v := by
          intro k k0 k1 e
          rcases hC.1 k k0 k1 with d | d | d
          · rw [d.2.2.2.1] at e
            have e1 : (fV k).toNat = v := Term.arg.inj e
            have e2 : fV k = ((v : Nat) : Int) := by have := d.2.1; omega
            exact hend k k0 k1 (by unfold hsM; rw [if_pos d.1, e2]) ⟨d.1, e2⟩
          · rw [d.2.2.2.2.1] at e; cases e
          · rw [d.2.2.2.2.1] at e; cases e
        refine pw_aload_n (i := 0) C dX10_natural_63 rfl rfl (Or.inr ⟨_, rfl⟩) ?_
        refine pw_get (j := 5) C cl_X10 fl_X10_26 (by decide) rfl h0 rfl dX10_natural_64 ?_
        refine pw_stk (st' := [.ref (B 5)]) rfl ?_
        refine pw_aload_n (i := 0) C dX10_natural_67 rfl rfl (Or.inr ⟨_, rfl⟩) ?_
        refine pw_get (j := 7) C cl_X10 fl_X10_165 (by decide) rfl h0 rfl dX10_natural_68 ?_
        refine pw_stk (st' := [.int (iZ n), .ref (B 5)]) (by rw [h7]) ?_
        refine pw_lload_n (i := 1) C dX10_natural_71 rfl rfl ?_
        refine pw_last C a5 ⟨by omega, by omega, by omega⟩ dX10_natural_72 (fun w_34 k_32 o_33 => ?_)
        refine pw_aload_n (i := 0) C dX10_natural_73 rfl rfl (Or.inr ⟨_, rfl⟩) ?_
        refine pw_iconst C dX10_natural_74 ?_
        refine pw_iconst C dX10_natural_75 ?_
        refine pw_iload_n (i := 3) C dX10_natural_76 rfl rfl ?_
        have c_35 := (o_33 1000 (by omega)).trans h0
        have c_36 := (o_33 1001 (by omega)).trans a0
        have c_37 := (o_33 1002 (by omega)).trans a1
        have c_38 := (o_33 1003 (by omega)).trans a2
        have c_39 := (o_33 1004 (by omega)).trans a3
        have c_40 := (o_33 1005 (by omega)).trans a4
        have c_41 := (o_33 1007 (by omega)).trans a6
        refine pw_callV (As := [.int (iZ (-1)), .int (iZ 0), .int (iZ (slV ((v : Nat) : Int)))]) (st := []) C (m_X10_added g l c_35 (n := n) (by exact h7) c_36 c_37 c_38 c_39 c_40 c_41 u0 u1 u2 u3 u4 u6 (l1 := (-1)) (r1 := 0) (h1 := (slV ((v : Nat) : Int))) (by omega) (by omega) (by omega) (by omega) (by omega)) my_X10_added ml_X10_168 (pw_rec.of C c_35 cl_X10.1) rfl ⟨Nat.le_of_ble_eq_true rfl, Nat.le_of_ble_eq_true rfl⟩ ⟨by (try dsimp only); omega, by (try dsimp only); omega⟩ rfl (Nat.le_of_ble_eq_true rfl) dX10_natural_77 ?_
        rintro _ w_42 ⟨rfl, e0, e1, e2, e3, e4, e5, e7, eo⟩
        refine pw_stk (st' := [.int (iZ n)]) rfl ?_
        have c_43 := (eo 1006 (by omega)).trans k_32
        have c_44 := ((eo 1009 (by omega)).trans (o_33 1009 (by omega))).trans a8
        have c_45 := ((eo 1010 (by omega)).trans (o_33 1010 (by omega))).trans a9
        refine pw_iret C hr dX10_natural_80 ⟨n, tUp t n (.arg v), n + 1, sN, upz fZ n 0, rfl, ?_, ⟨upz fL n (-1), upz fR n 0, upz fN n (fD (slV ((v : Nat) : Int))), upz fH n _, upz fV n ((v : Nat) : Int), upz fD (slV ((v : Nat) : Int)) n, fM, fE, e1, e2, e3, e4, e5, c_43, e7, c_44, c_45, ⟨upz_inI u0 (by decide), upz_inI u1 (by decide), upz_inI u2 (u6 _), upz_inI u3 (by decide), upz_inI u4 (by rw [if_pos (by decide)]; decide), upz_inL u5 (by omega), upz_inI u6 (by omega), u8, u9⟩, by omega, ?_, hs4, hC.push hn.1 (fun j j0 j1 => upz_ne _ _ (by omega)) (fun _ _ _ => ⟨rfl, fun _ _ _ => rfl⟩) hX ?_ ?_⟩, tUp_ext, by omega, by omega, fun j j0 j1 => upz_ne _ _ (by omega), ⟨hn.1, by omega, tUp_self _ _ _⟩, fun k hk => (eo k (by omega)).trans (o_33 k (by omega))⟩
        · rw [e0, ← h10]; rfl
        · rw [hs, show (n + 1).toNat = n.toNat + 1 by omega, symC, show ((n.toNat : Nat) : Int) = n by omega, upz_self, if_neg (by decide), Nat.add_zero, symC_eq (f := fL) _ (fun m m0 m1 => upz_ne _ _ (by omega))]
        · unfold ndM; rw [upz_self, upz_self, upz_self, upz_self, tUp_self]
          exact Or.inl ⟨rfl, by omega, by omega, by rw [Int.toNat_natCast], rfl⟩
        · unfold hsM; rw [upz_self, upz_self, if_pos rfl]
      · have hk0 : 0 ≤ (lsH (hsM fL fR fV fM fE) (slV ((v : Nat) : Int)) m1) := by omega
        refine pw_aload_n (i := 0) C dX10_natural_25 rfl rfl (Or.inr ⟨_, rfl⟩) ?_
        refine pw_get (j := 0) C cl_X10 fl_X10_8 (by decide) rfl h0 rfl dX10_natural_26 ?_
        refine pw_stk (st' := [.ref (B 0)]) rfl ?_
        refine pw_iload C dX10_natural_29 rfl ?_
        have g_46 := u0 (lsH (hsM fL fR fV fM fE) (slV ((v : Nat) : Int)) m1)
        refine pw_iald C a0 ⟨by omega, by omega, by omega⟩ dX10_natural_31 ?_
        refine pw_iconst C dX10_natural_32 ?_
        refine pw_icmp_ne (tgt := 51) C (by omega) (by omega) dX10_natural_33 (by decide) (fun h_47 => ?_) (fun h_47 => ?_)
        · refine pw_aload_n (i := 0) C dX10_natural_51 rfl rfl (Or.inr ⟨_, rfl⟩) ?_
          refine pw_get (j := 2) C cl_X10 fl_X10_17 (by decide) rfl h0 rfl dX10_natural_52 ?_
          refine pw_stk (st' := [.ref (B 2)]) rfl ?_
          refine pw_iload C dX10_natural_55 rfl ?_
          have g_48 := u2 (lsH (hsM fL fR fV fM fE) (slV ((v : Nat) : Int)) m1)
          refine pw_iald C a2 ⟨by omega, by omega, by omega⟩ dX10_natural_57 ?_
          refine pw_istore (lv' := [(0, .ref b), (1, .long (lZ ((v : Nat) : Int))), (3, .int (iZ (slV ((v : Nat) : Int)))), (4, .int (iZ (fN (lsH (hsM fL fR fV fM fE) (slV ((v : Nat) : Int)) m1))))]) C dX10_natural_58 (by decide) rfl ?_
          refine pw_goto (tgt := 19) C dX10_natural_60 (by decide) ?_
          have hnx := hC.2.2.2 _ hk0 (by omega)
          rw [lsH_is (hsM fL fR fV fM fE) (slV ((v : Nat) : Int)) m1 hk0] at hnx
          rw [hnx]
          exact ih _ (by omega) (by omega) (lsH_skip (Q := (fun j => fL j = -1 ∧ fV j = ((v : Nat) : Int))) hk0 hno (fun q => by omega))
        · refine pw_aload_n (i := 0) C dX10_natural_36 rfl rfl (Or.inr ⟨_, rfl⟩) ?_
          refine pw_get (j := 5) C cl_X10 fl_X10_26 (by decide) rfl h0 rfl dX10_natural_37 ?_
          refine pw_stk (st' := [.ref (B 5)]) rfl ?_
          refine pw_iload C dX10_natural_40 rfl ?_
          have g_49 := u5 (lsH (hsM fL fR fV fM fE) (slV ((v : Nat) : Int)) m1)
          refine pw_lald C a5 ⟨by omega, by omega, by omega⟩ dX10_natural_42 ?_
          refine pw_lload_n (i := 1) C dX10_natural_43 rfl rfl ?_
          refine pw_lcmp C (by omega) (by omega) dX10_natural_44 ?_
          refine pw_if_ne (tgt := 51) C (cmpZ_in _ _) dX10_natural_45 (by decide) (fun h_50 => ?_) (fun h_50 => ?_)
          · have h_50 := cmpZ_ne1 h_50
            refine pw_aload_n (i := 0) C dX10_natural_51 rfl rfl (Or.inr ⟨_, rfl⟩) ?_
            refine pw_get (j := 2) C cl_X10 fl_X10_17 (by decide) rfl h0 rfl dX10_natural_52 ?_
            refine pw_stk (st' := [.ref (B 2)]) rfl ?_
            refine pw_iload C dX10_natural_55 rfl ?_
            have g_51 := u2 (lsH (hsM fL fR fV fM fE) (slV ((v : Nat) : Int)) m1)
            refine pw_iald C a2 ⟨by omega, by omega, by omega⟩ dX10_natural_57 ?_
            refine pw_istore (lv' := [(0, .ref b), (1, .long (lZ ((v : Nat) : Int))), (3, .int (iZ (slV ((v : Nat) : Int)))), (4, .int (iZ (fN (lsH (hsM fL fR fV fM fE) (slV ((v : Nat) : Int)) m1))))]) C dX10_natural_58 (by decide) rfl ?_
            refine pw_goto (tgt := 19) C dX10_natural_60 (by decide) ?_
            have hnx := hC.2.2.2 _ hk0 (by omega)
            rw [lsH_is (hsM fL fR fV fM fE) (slV ((v : Nat) : Int)) m1 hk0] at hnx
            rw [hnx]
            exact ih _ (by omega) (by omega) (lsH_skip (Q := (fun j => fL j = -1 ∧ fV j = ((v : Nat) : Int))) hk0 hno (fun q => by omega))
          · have h_50 := cmpZ_eq1 h_50
            refine pw_iload C dX10_natural_48 rfl ?_
            refine pw_iret C hr dX10_natural_50 (rNew.old h0 hR h7 h10 ⟨hk0, by omega, ?_⟩)
            rcases hC.1 _ hk0 (by omega) with d | d | d
            · rw [d.2.2.2.1, show fV (lsH (hsM fL fR fV fM fE) (slV ((v : Nat) : Int)) m1) = ((v : Nat) : Int) by omega, Int.toNat_natCast]
            · omega
            · omega
  refine pw_lload_n (i := 1) C dX10_natural_0 rfl rfl ?_
  refine pw_l2i C dX10_natural_1 ?_
  refine pw_lload_n (i := 1) C dX10_natural_2 rfl rfl ?_
  refine pw_bipush C dX10_natural_3 (by decide) ?_
  refine pw_lshr (z := hiV ((v : Nat) : Int)) C dX10_natural_5 (Int64.ofInt_toInt _).symm ?_
  refine pw_l2i C dX10_natural_6 ?_
  refine pw_callS (As := [.int (iZ ((v : Nat) : Int)), .int (iZ (hiV ((v : Nat) : Int)))]) (st := []) C (m_X10_slot g l (l1 := ((v : Nat) : Int)) (r1 := (hiV ((v : Nat) : Int)))) my_X10_slot ml_X10_157 rfl ⟨Nat.le_of_ble_eq_true rfl, Nat.le_of_ble_eq_true rfl⟩ ⟨by (try dsimp only); omega, by (try dsimp only); omega⟩ rfl (Nat.le_of_ble_eq_true rfl) dX10_natural_7 ?_
  rintro _ _ ⟨rfl, rfl⟩
  have g_201 := slM_in ((v : Nat) : Int) (hiV ((v : Nat) : Int))
  refine pw_stk (st' := [.int (iZ (slM ((v : Nat) : Int) (hiV ((v : Nat) : Int))))]) rfl ?_
  refine pw_istore_n (i := 3) (lv' := [(0, .ref b), (1, .long (lZ ((v : Nat) : Int))), (3, .int (iZ (slM ((v : Nat) : Int) (hiV ((v : Nat) : Int)))))]) C dX10_natural_10 rfl (by decide) rfl ?_
  refine pw_aload_n (i := 0) C dX10_natural_11 rfl rfl (Or.inr ⟨_, rfl⟩) ?_
  refine pw_get (j := 6) C cl_X10 fl_X10_30 (by decide) rfl h0 rfl dX10_natural_12 ?_
  refine pw_stk (st' := [.ref (B 6)]) rfl ?_
  refine pw_iload_n (i := 3) C dX10_natural_15 rfl rfl ?_
  have g_202 := u6 (slM ((v : Nat) : Int) (hiV ((v : Nat) : Int)))
  refine pw_iald C a6 ⟨by omega, by omega, by omega⟩ dX10_natural_16 ?_
  refine pw_istore (lv' := [(0, .ref b), (1, .long (lZ ((v : Nat) : Int))), (3, .int (iZ (slM ((v : Nat) : Int) (hiV ((v : Nat) : Int))))), (4, .int (iZ (fD (slM ((v : Nat) : Int) (hiV ((v : Nat) : Int))))))]) C dX10_natural_17 (by decide) rfl ?_
  rw [show slM ((v : Nat) : Int) (hiV ((v : Nat) : Int)) = (slV ((v : Nat) : Int)) from rfl, hC.2.2.1 _ hsl.1 hsl.2]
  exact loop n.toNat n.toNat (Nat.le_refl _) (by omega) (fun j j0 j1 => absurd j1 (by omega))

theorem isw_step {P0 : Prop} {f h : Int → Int} {k : Nat} (h1 : P0 ∧ ∀ j : Int, 0 ≤ j → j < (k : Int) → f j = h j) (h2 : f (k : Int) = h (k : Int)) : P0 ∧ ∀ j : Int, 0 ≤ j → j < ((k + 1 : Nat) : Int) → f j = h j := by
  refine ⟨h1.1, fun j j0 j1 => ?_⟩
  by_cases e : j = k
  · rw [e]; exact h2
  · exact h1.2 j j0 (by omega)
set_option maxRecDepth 100000 in
set_option maxHeartbeats 4000000 in
/-- isWord -/
theorem m_X10_isWord (g : pw_P) (l : Launch) {w : pw_W} {b : Nat} {B : Nat → Nat} {x : Nat → Int} (h0 : w 1000 = (b, some (mdE B x))) {fM fE fW : Int → Int} {m1 s1 : Nat} (h17 : x 17 = ((m1 : Nat) : Int)) (a8 : w 1009 = (B 8, some (AI g 48000 fM))) (a9 : w 1010 = (B 9, some (AI g 4000 fE))) (a16 : w 1017 = (B 16, some (AI g 12 fW))) (u8 : ∀ j, inI (fM j)) (u9 : ∀ j, inI (fE j)) (u16 : ∀ j, inI (fW j)) (hm : m1 ≤ 12) (hs1 : s1 < 4000) : pw_M g l yX10_isWord cX10_isWord 4 (some .boolean) { frames := 0, cells := 0, slots := 0, locals := 0 } [.ref b, .int (iZ ((s1 : Nat) : Int))] w (fun r w' => w = w' ∧ ∃ q : Bool, r = some (.int (iZ (b2i q))) ∧ (q = true ↔ (fE ((s1 : Nat) : Int) = ((m1 : Nat) : Int) ∧ ∀ k : Int, 0 ≤ k → k < m1 → fM (12 * ((s1 : Nat) : Int) + k) = fW k))) := by
  refine pw_M.of (by decide) (Nat.le_of_ble_eq_true rfl) rfl ?_
  intro p e s m args below meth c C hr hn
  have loop : ∀ (kk k : Nat) (q : Bool), k + kk = m1 → (q = true ↔ (fE ((s1 : Nat) : Int) = ((m1 : Nat) : Int) ∧ ∀ j : Int, 0 ≤ j → j < (k : Int) → fM (12 * ((s1 : Nat) : Int) + j) = fW j)) → pw_G g p l e { frames := 0, cells := 0, slots := 0, locals := 0 } s m args below meth c 4 (pw_Q g below (fun r w' => w = w' ∧ ∃ q : Bool, r = some (.int (iZ (b2i q))) ∧ (q = true ↔ (fE ((s1 : Nat) : Int) = ((m1 : Nat) : Int) ∧ ∀ k : Int, 0 ≤ k → k < m1 → fM (12 * ((s1 : Nat) : Int) + k) = fW k))) args s { frames := 0, cells := 0, slots := 0, locals := 0 }) 0 0 21 [(0, .ref b), (1, .int (iZ ((s1 : Nat) : Int))), (2, .int (iZ (b2i q))), (3, .int (iZ ((k : Nat) : Int)))] [] w := by
    intro kk
    induction kk with
    | zero =>
      intro k q hk hq
      refine pw_iload_n (i := 3) C dX10_isWord_21 rfl rfl ?_
      refine pw_aload_n (i := 0) C dX10_isWord_22 rfl rfl (Or.inr ⟨_, rfl⟩) ?_
      refine pw_get (j := 17) C cl_X10 fl_X10_145 (by decide) rfl h0 rfl dX10_isWord_23 ?_
      refine pw_stk (st' := [.int (iZ ((m1 : Nat) : Int)), .int (iZ ((k : Nat) : Int))]) (by rw [h17]) ?_
      refine pw_icmp_ge (tgt := 65) C (by omega) (by omega) dX10_isWord_26 (by decide) (fun h_11 => ?_) (fun h_11 => ?_)
      · refine pw_iload_n (i := 2) C dX10_isWord_65 rfl rfl ?_
        refine pw_zret C hr (b2i_nar _) dX10_isWord_66 ⟨rfl, q, rfl, hq.trans ?_⟩
        exact ⟨fun a => ⟨a.1, fun k k0 k1 => a.2 k k0 (by omega)⟩, fun a => ⟨a.1, fun k k0 k1 => a.2 k k0 (by omega)⟩⟩
      · exfalso; omega
    | succ kk ih =>
      intro k q hk hq
      refine pw_iload_n (i := 3) C dX10_isWord_21 rfl rfl ?_
      refine pw_aload_n (i := 0) C dX10_isWord_22 rfl rfl (Or.inr ⟨_, rfl⟩) ?_
      refine pw_get (j := 17) C cl_X10 fl_X10_145 (by decide) rfl h0 rfl dX10_isWord_23 ?_
      refine pw_stk (st' := [.int (iZ ((m1 : Nat) : Int)), .int (iZ ((k : Nat) : Int))]) (by rw [h17]) ?_
      refine pw_icmp_ge (tgt := 65) C (by omega) (by omega) dX10_isWord_26 (by decide) (fun h_31 => ?_) (fun h_31 => ?_)
      · exfalso; omega
      · refine pw_iload_n (i := 2) C dX10_isWord_29 rfl rfl ?_
        refine pw_if_eqB (tgt := 65) C dX10_isWord_30 (by decide) (fun h_32 => ?_) (fun h_32 => ?_)
        · refine pw_iload_n (i := 2) C dX10_isWord_65 rfl rfl ?_
          refine pw_zret C hr (b2i_nar _) dX10_isWord_66 ⟨rfl, q, rfl, hq.trans ?_⟩
          rw [h_32] at hq
          exact ⟨fun a => absurd (hq.mpr a) (by decide), fun a => ⟨a.1, fun k k0 k1 => a.2 k k0 (by omega)⟩⟩
        · refine pw_aload_n (i := 0) C dX10_isWord_33 rfl rfl (Or.inr ⟨_, rfl⟩) ?_
          refine pw_get (j := 8) C cl_X10 fl_X10_34 (by decide) rfl h0 rfl dX10_isWord_34 ?_
          refine pw_stk (st' := [.ref (B 8)]) rfl ?_
          refine pw_bipush C dX10_isWord_37 (by decide) ?_
          refine pw_iload_n (i := 1) C dX10_isWord_39 rfl rfl ?_
          refine pw_imul C dX10_isWord_40 ?_
          refine pw_iload_n (i := 3) C dX10_isWord_41 rfl rfl ?_
          refine pw_iadd C dX10_isWord_42 ?_
          have g_33 := u8 ((12 * ((s1 : Nat) : Int)) + ((k : Nat) : Int))
          refine pw_iald C a8 ⟨by omega, by omega, by omega⟩ dX10_isWord_43 ?_
          refine pw_aload_n (i := 0) C dX10_isWord_44 rfl rfl (Or.inr ⟨_, rfl⟩) ?_
          refine pw_get (j := 16) C cl_X10 fl_X10_49 (by decide) rfl h0 rfl dX10_isWord_45 ?_
          refine pw_stk (st' := [.ref (B 16), .int (iZ (fM ((12 * ((s1 : Nat) : Int)) + ((k : Nat) : Int))))]) rfl ?_
          refine pw_iload_n (i := 3) C dX10_isWord_48 rfl rfl ?_
          have g_34 := u16 ((k : Nat) : Int)
          refine pw_iald C a16 ⟨by omega, by omega, by omega⟩ dX10_isWord_49 ?_
          refine pw_icmp_ne (tgt := 57) C (by omega) (by omega) dX10_isWord_50 (by decide) (fun h_35 => ?_) (fun h_35 => ?_)
          · refine pw_iconst C dX10_isWord_57 ?_
            refine pw_istore_n (i := 2) (lv' := [(0, .ref b), (1, .int (iZ ((s1 : Nat) : Int))), (2, .int (iZ 0)), (3, .int (iZ ((k : Nat) : Int)))]) C dX10_isWord_58 rfl (by decide) rfl ?_
            refine pw_iinc (lv' := [(0, .ref b), (1, .int (iZ ((s1 : Nat) : Int))), (2, .int (iZ 0)), (3, .int (iZ (((k : Nat) : Int) + 1)))]) C dX10_isWord_59 rfl (by decide) rfl ?_
            refine pw_goto (tgt := 21) C dX10_isWord_62 (by decide) ?_
            rw [show ((k : Nat) : Int) + 1 = ((k + 1 : Nat) : Int) by omega]
            exact ih (k + 1) false (by omega) ⟨fun a => absurd a (by decide), fun a => absurd (a.2 k (by omega) (by omega)) (by omega)⟩
          · refine pw_iconst C dX10_isWord_53 ?_
            refine pw_goto (tgt := 58) C dX10_isWord_54 (by decide) ?_
            refine pw_istore_n (i := 2) (lv' := [(0, .ref b), (1, .int (iZ ((s1 : Nat) : Int))), (2, .int (iZ 1)), (3, .int (iZ ((k : Nat) : Int)))]) C dX10_isWord_58 rfl (by decide) rfl ?_
            refine pw_iinc (lv' := [(0, .ref b), (1, .int (iZ ((s1 : Nat) : Int))), (2, .int (iZ 1)), (3, .int (iZ (((k : Nat) : Int) + 1)))]) C dX10_isWord_59 rfl (by decide) rfl ?_
            refine pw_goto (tgt := 21) C dX10_isWord_62 (by decide) ?_
            rw [show ((k : Nat) : Int) + 1 = ((k + 1 : Nat) : Int) by omega]
            exact ih (k + 1) true (by omega) ⟨fun _ => isw_step (f := fun j => fM (12 * ((s1 : Nat) : Int) + j)) (h := fW) (hq.mp h_32) (by omega), fun _ => rfl⟩
  refine pw_aload_n (i := 0) C dX10_isWord_0 rfl rfl (Or.inr ⟨_, rfl⟩) ?_
  refine pw_get (j := 9) C cl_X10 fl_X10_37 (by decide) rfl h0 rfl dX10_isWord_1 ?_
  refine pw_stk (st' := [.ref (B 9)]) rfl ?_
  refine pw_iload_n (i := 1) C dX10_isWord_4 rfl rfl ?_
  have g_101 := u9 ((s1 : Nat) : Int)
  refine pw_iald C a9 ⟨by omega, by omega, by omega⟩ dX10_isWord_5 ?_
  refine pw_aload_n (i := 0) C dX10_isWord_6 rfl rfl (Or.inr ⟨_, rfl⟩) ?_
  refine pw_get (j := 17) C cl_X10 fl_X10_145 (by decide) rfl h0 rfl dX10_isWord_7 ?_
  refine pw_stk (st' := [.int (iZ ((m1 : Nat) : Int)), .int (iZ (fE ((s1 : Nat) : Int)))]) (by rw [h17]) ?_
  refine pw_icmp_ne (tgt := 17) C (by omega) (by omega) dX10_isWord_10 (by decide) (fun h_102 => ?_) (fun h_102 => ?_)
  · refine pw_iconst C dX10_isWord_17 ?_
    refine pw_istore_n (i := 2) (lv' := [(0, .ref b), (1, .int (iZ ((s1 : Nat) : Int))), (2, .int (iZ 0))]) C dX10_isWord_18 rfl (by decide) rfl ?_
    refine pw_iconst C dX10_isWord_19 ?_
    refine pw_istore_n (i := 3) (lv' := [(0, .ref b), (1, .int (iZ ((s1 : Nat) : Int))), (2, .int (iZ 0)), (3, .int (iZ 0))]) C dX10_isWord_20 rfl (by decide) rfl ?_
    exact loop m1 0 false (by omega) ⟨fun a => absurd a (by decide), fun a => absurd a.1 (by omega)⟩
  · refine pw_iconst C dX10_isWord_13 ?_
    refine pw_goto (tgt := 18) C dX10_isWord_14 (by decide) ?_
    refine pw_istore_n (i := 2) (lv' := [(0, .ref b), (1, .int (iZ ((s1 : Nat) : Int))), (2, .int (iZ 1))]) C dX10_isWord_18 rfl (by decide) rfl ?_
    refine pw_iconst C dX10_isWord_19 ?_
    refine pw_istore_n (i := 3) (lv' := [(0, .ref b), (1, .int (iZ ((s1 : Nat) : Int))), (2, .int (iZ 1)), (3, .int (iZ 0))]) C dX10_isWord_20 rfl (by decide) rfl ?_
    exact loop m1 0 true (by omega) ⟨fun _ => ⟨by omega, fun k k0 k1 => absurd k1 (by omega)⟩, fun _ => rfl⟩

