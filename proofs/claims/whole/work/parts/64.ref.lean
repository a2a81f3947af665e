theorem upz_word {f fW : Int → Int} {b : Int} {k : Nat} (h : ∀ m : Int, 0 ≤ m → m < k → f (b + m) = fW m) : ∀ m : Int, 0 ≤ m → m < ((k + 1 : Nat) : Int) → upz f (b + (k : Int)) (fW (k : Int)) (b + m) = fW m := by
  intro m m0 m1
  by_cases e : m = k
  · rw [e, upz_self]
  · rw [upz_ne _ _ (by omega)]; exact h m m0 (by omega)
set_option maxRecDepth 100000 in
set_option maxHeartbeats 400000 in
/-- symbol -/
theorem m_X10_symbol (g : pw_P) (l : Launch) {w : pw_W} {b : Nat} {B : Nat → Nat} {x : Nat → Int} (h0 : w 1000 = (b, some (mdE B x))) {t : Int → Ob} {n : Int} {sN : Nat} {fZ : Int → Int} (hR : RS g w B t n sN fZ) (h7 : x 7 = n) (h10 : x 10 = ((sN : Nat) : Int)) {fW : Int → Int} {m1 : Nat} (h17 : x 17 = ((m1 : Nat) : Int)) (a16 : w 1017 = (B 16, some (AI g 12 fW))) (u16 : ∀ j, inI (fW j)) (hm : 1 ≤ m1 ∧ m1 ≤ 11) (hwa : ∀ k : Int, 0 ≤ k → k < m1 → atL (fW k) = true) (hcap : n < 40000) (hsc : sN < 4000) : pw_M g l yX10_symbol cX10_symbol 3 (some .int) { frames := 1, cells := 0, slots := 0, locals := 25 } [.ref b] w (fun r w' => rNew g w w' b B x t n sN 1 fZ (.index (spW fW 0 m1)) r) := by
  refine pw_M.of (by decide) (Nat.le_of_ble_eq_true rfl) rfl ?_
  intro p e s m args below meth c C hr hn
  obtain ⟨fL, fR, fN, fH, fV, fD, fM, fE, a0, a1, a2, a3, a4, a5, a6, a8, a9, ⟨u0, u1, u2, u3, u4, u5, u6, u8, u9⟩, hn, hs, hs4, hC⟩ := id hR
  have loop : ∀ (mm mq : Nat), mq ≤ mm → (mq : Int) ≤ n → (∀ j : Int, (mq : Int) ≤ j → j < n → (hsM fL fR fV fM fE) j = (shW fW 0 m1 % 8192) → ¬ (fun j => fL j = -2 ∧ fE (fR j) = ((m1 : Nat) : Int) ∧ ∀ k : Int, 0 ≤ k → k < m1 → fM (12 * fR j + k) = fW k) j) → pw_G g p l e { frames := 1, cells := 0, slots := 0, locals := 25 } s m args below meth c 3 (pw_Q g below (fun r w' => rNew g w w' b B x t n sN 1 fZ (.index (spW fW 0 m1)) r) args s { frames := 1, cells := 0, slots := 0, locals := 25 }) 0 0 18 [(0, .ref b), (1, .int (iZ (shW fW 0 m1 % 8192))), (2, .int (iZ (lsH (hsM fL fR fV fM fE) (shW fW 0 m1 % 8192) mq)))] [] w := by
    intro mm
    induction mm with
    | zero =>
      intro mq hm hmn hno
      obtain rfl : mq = 0 := by omega
      have hin := lsH_in (hsM fL fR fV fM fE) (shW fW 0 m1 % 8192) 0
      refine pw_iload_n (i := 2) C dX10_symbol_18 rfl rfl ?_
      refine pw_iconst C dX10_symbol_19 ?_
      refine pw_icmp_eq (tgt := 59) C (by omega) (by omega) dX10_symbol_20 (by decide) (fun h_301 => ?_) (fun h_301 => ?_)
      · refine pw_aload_n (i := 0) C dX10_symbol_59 rfl rfl (Or.inr ⟨_, rfl⟩) ?_
        refine pw_get (j := 9) C cl_X10 fl_X10_37 (by decide) rfl h0 rfl dX10_symbol_60 ?_
        refine pw_stk (st' := [.ref (B 9)]) rfl ?_
        refine pw_aload_n (i := 0) C dX10_symbol_63 rfl rfl (Or.inr ⟨_, rfl⟩) ?_
        refine pw_get (j := 10) C cl_X10 fl_X10_176 (by decide) rfl h0 rfl dX10_symbol_64 ?_
        refine pw_stk (st' := [.int (iZ ((sN : Nat) : Int)), .ref (B 9)]) (by rw [h10]) ?_
        refine pw_aload_n (i := 0) C dX10_symbol_67 rfl rfl (Or.inr ⟨_, rfl⟩) ?_
        refine pw_get (j := 17) C cl_X10 fl_X10_145 (by decide) rfl h0 rfl dX10_symbol_68 ?_
        refine pw_stk (st' := [.int (iZ ((m1 : Nat) : Int)), .int (iZ ((sN : Nat) : Int)), .ref (B 9)]) (by rw [h17]) ?_
        refine pw_iast C a9 ⟨by omega, by omega, by omega⟩ dX10_symbol_71 (fun w_304 k_302 o_303 => ?_)
        refine pw_iconst C dX10_symbol_72 ?_
        refine pw_istore_n (i := 2) (lv' := [(0, .ref b), (1, .int (iZ (shW fW 0 m1 % 8192))), (2, .int (iZ 0))]) C dX10_symbol_73 rfl (by decide) rfl ?_
        have hend := lsH_end (Q := (fun j => fL j = -2 ∧ fE (fR j) = ((m1 : Nat) : Int) ∧ ∀ k : Int, 0 ≤ k → k < m1 → fM (12 * fR j + k) = fW k)) (by omega) hno
        have hX : ∀ k : Int, 0 ≤ k → k < n → t k ≠ (.index (spW fW 0 m1)) := by
          intro k k0 k1 e
          rcases hC.1 k k0 k1 with d | d | d
          · rw [d.2.2.2.1] at e; cases e
          · rw [d.2.2.2.2.1] at e
            obtain ⟨i1, i2⟩ := spW_inj (f := fM) (b := 12 * fR k) (f' := fW) (b' := 0) _ _ (fun m m0 m1 => d.2.2.2.1 m m0 (by omega)) (fun m m0 m1 => by rw [Int.zero_add]; exact hwa m m0 m1) (Term.index.inj e)
            have i3 : fE (fR k) = ((m1 : Nat) : Int) := by have := d.2.2.1; omega
            have i4 : ∀ m : Int, 0 ≤ m → m < m1 → fM (12 * fR k + m) = fW m := fun m m0 m1 => by have := i2 m m0 (by omega); rw [Int.zero_add] at this; exact this
            exact hend k k0 k1 (by unfold hsM; rw [if_neg (by omega), if_pos d.1, i3, Int.toNat_natCast, shW_eq (f := fW) (b := 0) m1 (fun m m0 m1 => by rw [Int.zero_add]; exact i4 m m0 m1)]) ⟨d.1, i3, i4⟩
          · rw [d.2.2.2.2.1] at e; cases e
        have loop2 : ∀ (kk : Nat) (w2 : pw_W) (k : Nat) (fM1 : Int → Int), k + kk = m1 → w2 1009 = (B 8, some (AI g 48000 fM1)) → (∀ j, inI (fM1 j)) → (∀ m : Int, 0 ≤ m → m < k → fM1 (12 * ((sN : Nat) : Int) + m) = fW m) → (∀ j : Int, j < 12 * ((sN : Nat) : Int) → fM1 j = fM j) → (∀ q, q ≠ 1009 → w2 q = w_304 q) → pw_G g p l e { frames := 1, cells := 0, slots := 0, locals := 25 } s m args below meth c 3 (pw_Q g below (fun r w' => rNew g w w' b B x t n sN 1 fZ (.index (spW fW 0 m1)) r) args s { frames := 1, cells := 0, slots := 0, locals := 25 }) 0 0 74 [(0, .ref b), (1, .int (iZ (shW fW 0 m1 % 8192))), (2, .int (iZ ((k : Nat) : Int)))] [] w2 := by
          intro kk
          induction kk with
          | zero =>
            intro w2 k fM1 hk y9 v8 hM1 hM2 hf2
            have hkm : k = m1 := by omega
            have y0 := (hf2 1000 (by decide)).trans (((o_303 1000 (by decide))).trans h0)
            have y1 := (hf2 1001 (by decide)).trans (((o_303 1001 (by decide))).trans a0)
            have y2 := (hf2 1002 (by decide)).trans (((o_303 1002 (by decide))).trans a1)
            have y3 := (hf2 1003 (by decide)).trans (((o_303 1003 (by decide))).trans a2)
            have y4 := (hf2 1004 (by decide)).trans (((o_303 1004 (by decide))).trans a3)
            have y5 := (hf2 1005 (by decide)).trans (((o_303 1005 (by decide))).trans a4)
            have y6 := (hf2 1006 (by decide)).trans (((o_303 1006 (by decide))).trans a5)
            have y7 := (hf2 1007 (by decide)).trans (((o_303 1007 (by decide))).trans a6)
            have y17 := (hf2 1017 (by decide)).trans (((o_303 1017 (by decide))).trans a16)
            have y10 := (hf2 1010 (by decide)).trans k_302
            refine pw_iload_n (i := 2) C dX10_symbol_74 rfl rfl ?_
            refine pw_aload_n (i := 0) C dX10_symbol_75 rfl rfl (Or.inr ⟨_, rfl⟩) ?_
            refine pw_get (j := 17) C cl_X10 fl_X10_145 (by decide) rfl y0 rfl dX10_symbol_76 ?_
            refine pw_stk (st' := [.int (iZ ((m1 : Nat) : Int)), .int (iZ ((k : Nat) : Int))]) (by rw [h17]) ?_
            refine pw_icmp_ge (tgt := 108) C (by omega) (by omega) dX10_symbol_79 (by decide) (fun h_601 => ?_) (fun h_601 => ?_)
            · refine pw_aload_n (i := 0) C dX10_symbol_108 rfl rfl (Or.inr ⟨_, rfl⟩) ?_
              refine pw_dup C dX10_symbol_109 rfl ?_
              refine pw_get (j := 10) C cl_X10 fl_X10_176 (by decide) rfl y0 rfl dX10_symbol_110 ?_
              refine pw_stk (st' := [.int (iZ ((sN : Nat) : Int)), .ref b]) (by rw [h10]) ?_
              refine pw_iconst C dX10_symbol_113 ?_
              refine pw_iadd C dX10_symbol_114 ?_
              refine pw_put (j := 10) C cl_X10 fl_X10_176 (by decide) rfl rfl rfl rfl rfl y0 (Nat.le_of_ble_eq_true rfl) dX10_symbol_115 (fun w_604 k_602 o_603 => ?_)
              have k_605 : w_604 1000 = (b, some (mdE B (va_up x 10 (((sN : Nat) : Int) + 1)))) := k_602
              refine pw_aload_n (i := 0) C dX10_symbol_118 rfl rfl (Or.inr ⟨_, rfl⟩) ?_
              refine pw_bipush C dX10_symbol_119 (by decide) ?_
              refine pw_aload_n (i := 0) C dX10_symbol_121 rfl rfl (Or.inr ⟨_, rfl⟩) ?_
              refine pw_get (j := 10) C cl_X10 fl_X10_176 (by decide) rfl k_605 rfl dX10_symbol_122 ?_
              refine pw_stk (st' := [.int (iZ (((sN : Nat) : Int) + 1)), .int (iZ (-2)), .ref b]) rfl ?_
              refine pw_iconst C dX10_symbol_125 ?_
              refine pw_isub C dX10_symbol_126 ?_
              refine pw_iload_n (i := 1) C dX10_symbol_127 rfl rfl ?_
              have c_606 := (o_603 1001 (by omega)).trans y1
              have c_607 := (o_603 1002 (by omega)).trans y2
              have c_608 := (o_603 1003 (by omega)).trans y3
              have c_609 := (o_603 1004 (by omega)).trans y4
              have c_610 := (o_603 1005 (by omega)).trans y5
              have c_611 := (o_603 1007 (by omega)).trans y7
              refine pw_callV (As := [.int (iZ (-2)), .int (iZ ((((sN : Nat) : Int) + 1) - 1)), .int (iZ (shW fW 0 m1 % 8192))]) (st := []) C (m_X10_added g l k_605 (n := n) (by exact h7) c_606 c_607 c_608 c_609 c_610 c_611 u0 u1 u2 u3 u4 u6 (l1 := (-2)) (r1 := ((((sN : Nat) : Int) + 1) - 1)) (h1 := (shW fW 0 m1 % 8192)) (by omega) (by omega) (by omega) (by omega) (by omega)) my_X10_added ml_X10_168 (pw_rec.of C k_605 cl_X10.1) rfl ⟨Nat.le_of_ble_eq_true rfl, Nat.le_of_ble_eq_true rfl⟩ ⟨by (try dsimp only); omega, by (try dsimp only); omega⟩ rfl (Nat.le_of_ble_eq_true rfl) dX10_symbol_128 ?_
              rintro _ w_612 ⟨rfl, e0, e1, e2, e3, e4, e5, e7, eo⟩
              refine pw_stk (st' := [.int (iZ n)]) rfl ?_
              have c_613 := ((eo 1006 (by omega)).trans (o_603 1006 (by omega))).trans y6
              have c_614 := ((eo 1009 (by omega)).trans (o_603 1009 (by omega))).trans y9
              have c_615 := ((eo 1010 (by omega)).trans (o_603 1010 (by omega))).trans y10
              have hfe : upz fE ((sN : Nat) : Int) ((m1 : Nat) : Int) ((sN : Nat) : Int) = ((m1 : Nat) : Int) := upz_self _ _ _
              refine pw_iret C hr dX10_symbol_131 ⟨n, tUp t n (.index (spW fW 0 m1)), n + 1, sN + 1, upz fZ n 0, rfl, ?_, ⟨upz fL n (-2), upz fR n (((sN : Nat) : Int) + 1 - 1), upz fN n (fD (shW fW 0 m1 % 8192)), upz fH n _, fV, upz fD (shW fW 0 m1 % 8192) n, fM1, upz fE ((sN : Nat) : Int) ((m1 : Nat) : Int), e1, e2, e3, e4, e5, c_613, e7, c_614, c_615, ⟨upz_inI u0 (by decide), upz_inI u1 (by omega), upz_inI u2 (u6 _), upz_inI u3 (by decide), upz_inI u4 (by rw [if_pos (by decide)]; decide), u5, upz_inI u6 (by omega), v8, upz_inI u9 (by omega)⟩, by omega, ?_, by omega, hC.push hn.1 (fun _ _ _ => rfl) (fun j j0 j1 => ⟨upz_ne _ _ (by omega), fun m m0 m1 => hM2 _ (by omega)⟩) hX ?_ ?_⟩, tUp_ext, by omega, by omega, fun j j0 j1 => upz_ne _ _ (by omega), ⟨hn.1, by omega, tUp_self _ _ _⟩, fun k hk => ((eo k (by omega)).trans (o_603 k (by omega))).trans ((hf2 k (by omega)).trans ((o_303 k (by omega))))⟩
              · rw [e0, show ((sN + 1 : Nat) : Int) = ((sN : Nat) : Int) + 1 by omega]; rfl
              · rw [show (n + 1).toNat = n.toNat + 1 by omega, symC, show ((n.toNat : Nat) : Int) = n by omega, upz_self, if_pos rfl, symC_eq (f := fL) _ (fun m m0 m1 => upz_ne _ _ (by omega)), ← hs]
              · unfold ndM; rw [upz_self, upz_self, upz_self, tUp_self, show ((sN : Nat) : Int) + 1 - 1 = ((sN : Nat) : Int) by omega, hfe, if_pos (by decide), Int.toNat_natCast]
                refine Or.inr (Or.inl ⟨rfl, by rw [symC_eq (f := fL) _ (fun m m0 m1 => upz_ne _ _ (by omega)), ← hs], by omega, fun m m0 m1 => by rw [hM1 m m0 (by omega)]; exact hwa m m0 (by omega), ?_, rfl⟩)
                rw [spW_eq (f := fW) (b := 0) (f' := fM1) (b' := 12 * ((sN : Nat) : Int)) m1 (fun m m0 m1 => by rw [Int.zero_add]; exact hM1 m m0 (by omega))]
              · unfold hsM; rw [upz_self, upz_self, if_neg (by decide), if_pos rfl, show ((sN : Nat) : Int) + 1 - 1 = ((sN : Nat) : Int) by omega, hfe, Int.toNat_natCast, shW_eq (f := fW) (b := 0) (f' := fM1) (b' := 12 * ((sN : Nat) : Int)) m1 (fun m m0 m1 => by rw [Int.zero_add]; exact hM1 m m0 (by omega))]
            · exfalso; omega
          | succ kk ih2 =>
            intro w2 k fM1 hk y9 v8 hM1 hM2 hf2
            have y0 := (hf2 1000 (by decide)).trans (((o_303 1000 (by decide))).trans h0)
            have y1 := (hf2 1001 (by decide)).trans (((o_303 1001 (by decide))).trans a0)
            have y2 := (hf2 1002 (by decide)).trans (((o_303 1002 (by decide))).trans a1)
            have y3 := (hf2 1003 (by decide)).trans (((o_303 1003 (by decide))).trans a2)
            have y4 := (hf2 1004 (by decide)).trans (((o_303 1004 (by decide))).trans a3)
            have y5 := (hf2 1005 (by decide)).trans (((o_303 1005 (by decide))).trans a4)
            have y6 := (hf2 1006 (by decide)).trans (((o_303 1006 (by decide))).trans a5)
            have y7 := (hf2 1007 (by decide)).trans (((o_303 1007 (by decide))).trans a6)
            have y17 := (hf2 1017 (by decide)).trans (((o_303 1017 (by decide))).trans a16)
            have y10 := (hf2 1010 (by decide)).trans k_302
            refine pw_iload_n (i := 2) C dX10_symbol_74 rfl rfl ?_
            refine pw_aload_n (i := 0) C dX10_symbol_75 rfl rfl (Or.inr ⟨_, rfl⟩) ?_
            refine pw_get (j := 17) C cl_X10 fl_X10_145 (by decide) rfl y0 rfl dX10_symbol_76 ?_
            refine pw_stk (st' := [.int (iZ ((m1 : Nat) : Int)), .int (iZ ((k : Nat) : Int))]) (by rw [h17]) ?_
            refine pw_icmp_ge (tgt := 108) C (by omega) (by omega) dX10_symbol_79 (by decide) (fun h_701 => ?_) (fun h_701 => ?_)
            · exfalso; omega
            · refine pw_aload_n (i := 0) C dX10_symbol_82 rfl rfl (Or.inr ⟨_, rfl⟩) ?_
              refine pw_get (j := 8) C cl_X10 fl_X10_34 (by decide) rfl y0 rfl dX10_symbol_83 ?_
              refine pw_stk (st' := [.ref (B 8)]) rfl ?_
              refine pw_bipush C dX10_symbol_86 (by decide) ?_
              refine pw_aload_n (i := 0) C dX10_symbol_88 rfl rfl (Or.inr ⟨_, rfl⟩) ?_
              refine pw_get (j := 10) C cl_X10 fl_X10_176 (by decide) rfl y0 rfl dX10_symbol_89 ?_
              refine pw_stk (st' := [.int (iZ ((sN : Nat) : Int)), .int (iZ 12), .ref (B 8)]) (by rw [h10]) ?_
              refine pw_imul C dX10_symbol_92 ?_
              refine pw_iload_n (i := 2) C dX10_symbol_93 rfl rfl ?_
              refine pw_iadd C dX10_symbol_94 ?_
              refine pw_aload_n (i := 0) C dX10_symbol_95 rfl rfl (Or.inr ⟨_, rfl⟩) ?_
              refine pw_get (j := 16) C cl_X10 fl_X10_49 (by decide) rfl y0 rfl dX10_symbol_96 ?_
              refine pw_stk (st' := [.ref (B 16), .int (iZ ((12 * ((sN : Nat) : Int)) + ((k : Nat) : Int))), .ref (B 8)]) rfl ?_
              refine pw_iload_n (i := 2) C dX10_symbol_99 rfl rfl ?_
              have g_702 := u16 ((k : Nat) : Int)
              refine pw_iald C y17 ⟨by omega, by omega, by omega⟩ dX10_symbol_100 ?_
              refine pw_iast C y9 ⟨by omega, by omega, by omega⟩ dX10_symbol_101 (fun w_705 k_703 o_704 => ?_)
              refine pw_iinc (lv' := [(0, .ref b), (1, .int (iZ (shW fW 0 m1 % 8192))), (2, .int (iZ (((k : Nat) : Int) + 1)))]) C dX10_symbol_102 rfl (by decide) rfl ?_
              refine pw_goto (tgt := 74) C dX10_symbol_105 (by decide) ?_
              rw [show ((k : Nat) : Int) + 1 = ((k + 1 : Nat) : Int) by omega]
              exact ih2 w_705 (k + 1) _ (by omega) k_703 (upz_inI v8 (u16 _)) (upz_word hM1) (fun j hj => by rw [upz_ne _ _ (by omega)]; exact hM2 j hj) (fun q hq => ((o_704 q hq)).trans (hf2 q hq))
        exact loop2 m1 w_304 0 fM (by omega) (((o_303 1009 (by decide))).trans a8) u8 (fun m m0 m1 => absurd m1 (by omega)) (fun _ _ => rfl) (fun _ _ => rfl)
      · exfalso; omega
    | succ mm ih =>
      intro mq hm hmn hno
      have hin := lsH_in (hsM fL fR fV fM fE) (shW fW 0 m1 % 8192) mq
      refine pw_iload_n (i := 2) C dX10_symbol_18 rfl rfl ?_
      refine pw_iconst C dX10_symbol_19 ?_
      refine pw_icmp_eq (tgt := 59) C (by omega) (by omega) dX10_symbol_20 (by decide) (fun h_31 => ?_) (fun h_31 => ?_)
      · refine pw_aload_n (i := 0) C dX10_symbol_59 rfl rfl (Or.inr ⟨_, rfl⟩) ?_
        refine pw_get (j := 9) C cl_X10 fl_X10_37 (by decide) rfl h0 rfl dX10_symbol_60 ?_
        refine pw_stk (st' := [.ref (B 9)]) rfl ?_
        refine pw_aload_n (i := 0) C dX10_symbol_63 rfl rfl (Or.inr ⟨_, rfl⟩) ?_
        refine pw_get (j := 10) C cl_X10 fl_X10_176 (by decide) rfl h0 rfl dX10_symbol_64 ?_
        refine pw_stk (st' := [.int (iZ ((sN : Nat) : Int)), .ref (B 9)]) (by rw [h10]) ?_
        refine pw_aload_n (i := 0) C dX10_symbol_67 rfl rfl (Or.inr ⟨_, rfl⟩) ?_
        refine pw_get (j := 17) C cl_X10 fl_X10_145 (by decide) rfl h0 rfl dX10_symbol_68 ?_
        refine pw_stk (st' := [.int (iZ ((m1 : Nat) : Int)), .int (iZ ((sN : Nat) : Int)), .ref (B 9)]) (by rw [h17]) ?_
        refine pw_iast C a9 ⟨by omega, by omega, by omega⟩ dX10_symbol_71 (fun w_34 k_32 o_33 => ?_)
        refine pw_iconst C dX10_symbol_72 ?_
        refine pw_istore_n (i := 2) (lv' := [(0, .ref b), (1, .int (iZ (shW fW 0 m1 % 8192))), (2, .int (iZ 0))]) C dX10_symbol_73 rfl (by decide) rfl ?_
        have hend := lsH_end (Q := (fun j => fL j = -2 ∧ fE (fR j) = ((m1 : Nat) : Int) ∧ ∀ k : Int, 0 ≤ k → k < m1 → fM (12 * fR j + k) = fW k)) (by omega) hno
        have hX : ∀ k : Int, 0 ≤ k → k < n → t k ≠ (.index (spW fW 0 m1)) := by
          intro k k0 k1 e
          rcases hC.1 k k0 k1 with d | d | d
          · rw [d.2.2.2.1] at e; cases e
          · rw [d.2.2.2.2.1] at e
            obtain ⟨i1, i2⟩ := spW_inj (f := fM) (b := 12 * fR k) (f' := fW) (b' := 0) _ _ (fun m m0 m1 => d.2.2.2.1 m m0 (by omega)) (fun m m0 m1 => by rw [Int.zero_add]; exact hwa m m0 m1) (Term.index.inj e)
            have i3 : fE (fR k) = ((m1 : Nat) : Int) := by have := d.2.2.1; omega
            have i4 : ∀ m : Int, 0 ≤ m → m < m1 → fM (12 * fR k + m) = fW m := fun m m0 m1 => by have := i2 m m0 (by omega); rw [Int.zero_add] at this; exact this
            exact hend k k0 k1 (by unfold hsM; rw [if_neg (by omega), if_pos d.1, i3, Int.toNat_natCast, shW_eq (f := fW) (b := 0) m1 (fun m m0 m1 => by rw [Int.zero_add]; exact i4 m m0 m1)]) ⟨d.1, i3, i4⟩
          · rw [d.2.2.2.2.1] at e; cases e
        have loop2 : ∀ (kk : Nat) (w2 : pw_W) (k : Nat) (fM1 : Int → Int), k + kk = m1 → w2 1009 = (B 8, some (AI g 48000 fM1)) → (∀ j, inI (fM1 j)) → (∀ m : Int, 0 ≤ m → m < k → fM1 (12 * ((sN : Nat) : Int) + m) = fW m) → (∀ j : Int, j < 12 * ((sN : Nat) : Int) → fM1 j = fM j) → (∀ q, q ≠ 1009 → w2 q = w_34 q) → pw_G g p l e { frames := 1, cells := 0, slots := 0, locals := 25 } s m args below meth c 3 (pw_Q g below (fun r w' => rNew g w w' b B x t n sN 1 fZ (.index (spW fW 0 m1)) r) args s { frames := 1, cells := 0, slots := 0, locals := 25 }) 0 0 74 [(0, .ref b), (1, .int (iZ (shW fW 0 m1 % 8192))), (2, .int (iZ ((k : Nat) : Int)))] [] w2 := by
          intro kk
          induction kk with
          | zero =>
            intro w2 k fM1 hk y9 v8 hM1 hM2 hf2
            have hkm : k = m1 := by omega
            have y0 := (hf2 1000 (by decide)).trans (((o_33 1000 (by decide))).trans h0)
            have y1 := (hf2 1001 (by decide)).trans (((o_33 1001 (by decide))).trans a0)
            have y2 := (hf2 1002 (by decide)).trans (((o_33 1002 (by decide))).trans a1)
            have y3 := (hf2 1003 (by decide)).trans (((o_33 1003 (by decide))).trans a2)
            have y4 := (hf2 1004 (by decide)).trans (((o_33 1004 (by decide))).trans a3)
            have y5 := (hf2 1005 (by decide)).trans (((o_33 1005 (by decide))).trans a4)
            have y6 := (hf2 1006 (by decide)).trans (((o_33 1006 (by decide))).trans a5)
            have y7 := (hf2 1007 (by decide)).trans (((o_33 1007 (by decide))).trans a6)
            have y17 := (hf2 1017 (by decide)).trans (((o_33 1017 (by decide))).trans a16)
            have y10 := (hf2 1010 (by decide)).trans k_32
            refine pw_iload_n (i := 2) C dX10_symbol_74 rfl rfl ?_
            refine pw_aload_n (i := 0) C dX10_symbol_75 rfl rfl (Or.inr ⟨_, rfl⟩) ?_
            refine pw_get (j := 17) C cl_X10 fl_X10_145 (by decide) rfl y0 rfl dX10_symbol_76 ?_
            refine pw_stk (st' := [.int (iZ ((m1 : Nat) : Int)), .int (iZ ((k : Nat) : Int))]) (by rw [h17]) ?_
            refine pw_icmp_ge (tgt := 108) C (by omega) (by omega) dX10_symbol_79 (by decide) (fun h_601 => ?_) (fun h_601 => ?_)
            · refine pw_aload_n (i := 0) C dX10_symbol_108 rfl rfl (Or.inr ⟨_, rfl⟩) ?_
              refine pw_dup C dX10_symbol_109 rfl ?_
              refine pw_get (j := 10) C cl_X10 fl_X10_176 (by decide) rfl y0 rfl dX10_symbol_110 ?_
              refine pw_stk (st' := [.int (iZ ((sN : Nat) : Int)), .ref b]) (by rw [h10]) ?_
              refine pw_iconst C dX10_symbol_113 ?_
              refine pw_iadd C dX10_symbol_114 ?_
              refine pw_put (j := 10) C cl_X10 fl_X10_176 (by decide) rfl rfl rfl rfl rfl y0 (Nat.le_of_ble_eq_true rfl) dX10_symbol_115 (fun w_604 k_602 o_603 => ?_)
              have k_605 : w_604 1000 = (b, some (mdE B (va_up x 10 (((sN : Nat) : Int) + 1)))) := k_602
              refine pw_aload_n (i := 0) C dX10_symbol_118 rfl rfl (Or.inr ⟨_, rfl⟩) ?_
              refine pw_bipush C dX10_symbol_119 (by decide) ?_
              refine pw_aload_n (i := 0) C dX10_symbol_121 rfl rfl (Or.inr ⟨_, rfl⟩) ?_
              refine pw_get (j := 10) C cl_X10 fl_X10_176 (by decide) rfl k_605 rfl dX10_symbol_122 ?_
              refine pw_stk (st' := [.int (iZ (((sN : Nat) : Int) + 1)), .int (iZ (-2)), .ref b]) rfl ?_
              refine pw_iconst C dX10_symbol_125 ?_
              refine pw_isub C dX10_symbol_126 ?_
              refine pw_iload_n (i := 1) C dX10_symbol_127 rfl rfl ?_
              have c_606 := (o_603 1001 (by omega)).trans y1
              have c_607 := (o_603 1002 (by omega)).trans y2
              have c_608 := (o_603 1003 (by omega)).trans y3
              have c_609 := (o_603 1004 (by omega)).trans y4
              have c_610 := (o_603 1005 (by omega)).trans y5
              have c_611 := (o_603 1007 (by omega)).trans y7
              refine pw_callV (As := [.int (iZ (-2)), .int (iZ ((((sN : Nat) : Int) + 1) - 1)), .int (iZ (shW fW 0 m1 % 8192))]) (st := []) C (m_X10_added g l k_605 (n := n) (by exact h7) c_606 c_607 c_608 c_609 c_610 c_611 u0 u1 u2 u3 u4 u6 (l1 := (-2)) (r1 := ((((sN : Nat) : Int) + 1) - 1)) (h1 := (shW fW 0 m1 % 8192)) (by omega) (by omega) (by omega) (by omega) (by omega)) my_X10_added ml_X10_168 (pw_rec.of C k_605 cl_X10.1) rfl ⟨Nat.le_of_ble_eq_true rfl, Nat.le_of_ble_eq_true rfl⟩ ⟨by (try dsimp only); omega, by (try dsimp only); omega⟩ rfl (Nat.le_of_ble_eq_true rfl) dX10_symbol_128 ?_
              rintro _ w_612 ⟨rfl, e0, e1, e2, e3, e4, e5, e7, eo⟩
              refine pw_stk (st' := [.int (iZ n)]) rfl ?_
              have c_613 := ((eo 1006 (by omega)).trans (o_603 1006 (by omega))).trans y6
              have c_614 := ((eo 1009 (by omega)).trans (o_603 1009 (by omega))).trans y9
              have c_615 := ((eo 1010 (by omega)).trans (o_603 1010 (by omega))).trans y10
              have hfe : upz fE ((sN : Nat) : Int) ((m1 : Nat) : Int) ((sN : Nat) : Int) = ((m1 : Nat) : Int) := upz_self _ _ _
              refine pw_iret C hr dX10_symbol_131 ⟨n, tUp t n (.index (spW fW 0 m1)), n + 1, sN + 1, upz fZ n 0, rfl, ?_, ⟨upz fL n (-2), upz fR n (((sN : Nat) : Int) + 1 - 1), upz fN n (fD (shW fW 0 m1 % 8192)), upz fH n _, fV, upz fD (shW fW 0 m1 % 8192) n, fM1, upz fE ((sN : Nat) : Int) ((m1 : Nat) : Int), e1, e2, e3, e4, e5, c_613, e7, c_614, c_615, ⟨upz_inI u0 (by decide), upz_inI u1 (by omega), upz_inI u2 (u6 _), upz_inI u3 (by decide), upz_inI u4 (by rw [if_pos (by decide)]; decide), u5, upz_inI u6 (by omega), v8, upz_inI u9 (by omega)⟩, by omega, ?_, by omega, hC.push hn.1 (fun _ _ _ => rfl) (fun j j0 j1 => ⟨upz_ne _ _ (by omega), fun m m0 m1 => hM2 _ (by omega)⟩) hX ?_ ?_⟩, tUp_ext, by omega, by omega, fun j j0 j1 => upz_ne _ _ (by omega), ⟨hn.1, by omega, tUp_self _ _ _⟩, fun k hk => ((eo k (by omega)).trans (o_603 k (by omega))).trans ((hf2 k (by omega)).trans ((o_33 k (by omega))))⟩
              · rw [e0, show ((sN + 1 : Nat) : Int) = ((sN : Nat) : Int) + 1 by omega]; rfl
              · rw [show (n + 1).toNat = n.toNat + 1 by omega, symC, show ((n.toNat : Nat) : Int) = n by omega, upz_self, if_pos rfl, symC_eq (f := fL) _ (fun m m0 m1 => upz_ne _ _ (by omega)), ← hs]
              · unfold ndM; rw [upz_self, upz_self, upz_self, tUp_self, show ((sN : Nat) : Int) + 1 - 1 = ((sN : Nat) : Int) by omega, hfe, if_pos (by decide), Int.toNat_natCast]
                refine Or.inr (Or.inl ⟨rfl, by rw [symC_eq (f := fL) _ (fun m m0 m1 => upz_ne _ _ (by omega)), ← hs], by omega, fun m m0 m1 => by rw [hM1 m m0 (by omega)]; exact hwa m m0 (by omega), ?_, rfl⟩)
                rw [spW_eq (f := fW) (b := 0) (f' := fM1) (b' := 12 * ((sN : Nat) : Int)) m1 (fun m m0 m1 => by rw [Int.zero_add]; exact hM1 m m0 (by omega))]
              · unfold hsM; rw [upz_self, upz_self, if_neg (by decide), if_pos rfl, show ((sN : Nat) : Int) + 1 - 1 = ((sN : Nat) : Int) by omega, hfe, Int.toNat_natCast, shW_eq (f := fW) (b := 0) (f' := fM1) (b' := 12 * ((sN : Nat) : Int)) m1 (fun m m0 m1 => by rw [Int.zero_add]; exact hM1 m m0 (by omega))]
            · exfalso; omega
          | succ kk ih2 =>
            intro w2 k fM1 hk y9 v8 hM1 hM2 hf2
            have y0 := (hf2 1000 (by decide)).trans (((o_33 1000 (by decide))).trans h0)
            have y1 := (hf2 1001 (by decide)).trans (((o_33 1001 (by decide))).trans a0)
            have y2 := (hf2 1002 (by decide)).trans (((o_33 1002 (by decide))).trans a1)
            have y3 := (hf2 1003 (by decide)).trans (((o_33 1003 (by decide))).trans a2)
            have y4 := (hf2 1004 (by decide)).trans (((o_33 1004 (by decide))).trans a3)
            have y5 := (hf2 1005 (by decide)).trans (((o_33 1005 (by decide))).trans a4)
            have y6 := (hf2 1006 (by decide)).trans (((o_33 1006 (by decide))).trans a5)
            have y7 := (hf2 1007 (by decide)).trans (((o_33 1007 (by decide))).trans a6)
            have y17 := (hf2 1017 (by decide)).trans (((o_33 1017 (by decide))).trans a16)
            have y10 := (hf2 1010 (by decide)).trans k_32
            refine pw_iload_n (i := 2) C dX10_symbol_74 rfl rfl ?_
            refine pw_aload_n (i := 0) C dX10_symbol_75 rfl rfl (Or.inr ⟨_, rfl⟩) ?_
            refine pw_get (j := 17) C cl_X10 fl_X10_145 (by decide) rfl y0 rfl dX10_symbol_76 ?_
            refine pw_stk (st' := [.int (iZ ((m1 : Nat) : Int)), .int (iZ ((k : Nat) : Int))]) (by rw [h17]) ?_
            refine pw_icmp_ge (tgt := 108) C (by omega) (by omega) dX10_symbol_79 (by decide) (fun h_701 => ?_) (fun h_701 => ?_)
            · exfalso; omega
            · refine pw_aload_n (i := 0) C dX10_symbol_82 rfl rfl (Or.inr ⟨_, rfl⟩) ?_
              refine pw_get (j := 8) C cl_X10 fl_X10_34 (by decide) rfl y0 rfl dX10_symbol_83 ?_
              refine pw_stk (st' := [.ref (B 8)]) rfl ?_
              refine pw_bipush C dX10_symbol_86 (by decide) ?_
              refine pw_aload_n (i := 0) C dX10_symbol_88 rfl rfl (Or.inr ⟨_, rfl⟩) ?_
              refine pw_get (j := 10) C cl_X10 fl_X10_176 (by decide) rfl y0 rfl dX10_symbol_89 ?_
              refine pw_stk (st' := [.int (iZ ((sN : Nat) : Int)), .int (iZ 12), .ref (B 8)]) (by rw [h10]) ?_
              refine pw_imul C dX10_symbol_92 ?_
              refine pw_iload_n (i := 2) C dX10_symbol_93 rfl rfl ?_
              refine pw_iadd C dX10_symbol_94 ?_
              refine pw_aload_n (i := 0) C dX10_symbol_95 rfl rfl (Or.inr ⟨_, rfl⟩) ?_
              refine pw_get (j := 16) C cl_X10 fl_X10_49 (by decide) rfl y0 rfl dX10_symbol_96 ?_
              refine pw_stk (st' := [.ref (B 16), .int (iZ ((12 * ((sN : Nat) : Int)) + ((k : Nat) : Int))), .ref (B 8)]) rfl ?_
              refine pw_iload_n (i := 2) C dX10_symbol_99 rfl rfl ?_
              have g_702 := u16 ((k : Nat) : Int)
              refine pw_iald C y17 ⟨by omega, by omega, by omega⟩ dX10_symbol_100 ?_
              refine pw_iast C y9 ⟨by omega, by omega, by omega⟩ dX10_symbol_101 (fun w_705 k_703 o_704 => ?_)
              refine pw_iinc (lv' := [(0, .ref b), (1, .int (iZ (shW fW 0 m1 % 8192))), (2, .int (iZ (((k : Nat) : Int) + 1)))]) C dX10_symbol_102 rfl (by decide) rfl ?_
              refine pw_goto (tgt := 74) C dX10_symbol_105 (by decide) ?_
              rw [show ((k : Nat) : Int) + 1 = ((k + 1 : Nat) : Int) by omega]
              exact ih2 w_705 (k + 1) _ (by omega) k_703 (upz_inI v8 (u16 _)) (upz_word hM1) (fun j hj => by rw [upz_ne _ _ (by omega)]; exact hM2 j hj) (fun q hq => ((o_704 q hq)).trans (hf2 q hq))
        exact loop2 m1 w_34 0 fM (by omega) (((o_33 1009 (by decide))).trans a8) u8 (fun m m0 m1 => absurd m1 (by omega)) (fun _ _ => rfl) (fun _ _ => rfl)
      · have hk0 : 0 ≤ (lsH (hsM fL fR fV fM fE) (shW fW 0 m1 % 8192) mq) := by omega
        refine pw_aload_n (i := 0) C dX10_symbol_23 rfl rfl (Or.inr ⟨_, rfl⟩) ?_
        refine pw_get (j := 0) C cl_X10 fl_X10_8 (by decide) rfl h0 rfl dX10_symbol_24 ?_
        refine pw_stk (st' := [.ref (B 0)]) rfl ?_
        refine pw_iload_n (i := 2) C dX10_symbol_27 rfl rfl ?_
        have g_35 := u0 (lsH (hsM fL fR fV fM fE) (shW fW 0 m1 % 8192) mq)
        refine pw_iald C a0 ⟨by omega, by omega, by omega⟩ dX10_symbol_28 ?_
        refine pw_bipush C dX10_symbol_29 (by decide) ?_
        refine pw_icmp_ne (tgt := 49) C (by omega) (by omega) dX10_symbol_31 (by decide) (fun h_36 => ?_) (fun h_36 => ?_)
        · refine pw_aload_n (i := 0) C dX10_symbol_49 rfl rfl (Or.inr ⟨_, rfl⟩) ?_
          refine pw_get (j := 2) C cl_X10 fl_X10_17 (by decide) rfl h0 rfl dX10_symbol_50 ?_
          refine pw_stk (st' := [.ref (B 2)]) rfl ?_
          refine pw_iload_n (i := 2) C dX10_symbol_53 rfl rfl ?_
          have g_37 := u2 (lsH (hsM fL fR fV fM fE) (shW fW 0 m1 % 8192) mq)
          refine pw_iald C a2 ⟨by omega, by omega, by omega⟩ dX10_symbol_54 ?_
          refine pw_istore_n (i := 2) (lv' := [(0, .ref b), (1, .int (iZ (shW fW 0 m1 % 8192))), (2, .int (iZ (fN (lsH (hsM fL fR fV fM fE) (shW fW 0 m1 % 8192) mq))))]) C dX10_symbol_55 rfl (by decide) rfl ?_
          refine pw_goto (tgt := 18) C dX10_symbol_56 (by decide) ?_
          have hnx := hC.2.2.2 _ hk0 (by omega)
          rw [lsH_is (hsM fL fR fV fM fE) (shW fW 0 m1 % 8192) mq hk0] at hnx
          rw [hnx]
          exact ih _ (by omega) (by omega) (lsH_skip (Q := (fun j => fL j = -2 ∧ fE (fR j) = ((m1 : Nat) : Int) ∧ ∀ k : Int, 0 ≤ k → k < m1 → fM (12 * fR j + k) = fW k)) hk0 hno (fun q => by omega))
        · refine pw_aload_n (i := 0) C dX10_symbol_34 rfl rfl (Or.inr ⟨_, rfl⟩) ?_
          refine pw_aload_n (i := 0) C dX10_symbol_35 rfl rfl (Or.inr ⟨_, rfl⟩) ?_
          refine pw_get (j := 1) C cl_X10 fl_X10_14 (by decide) rfl h0 rfl dX10_symbol_36 ?_
          refine pw_stk (st' := [.ref (B 1), .ref b]) rfl ?_
          refine pw_iload_n (i := 2) C dX10_symbol_39 rfl rfl ?_
          have g_38 := u1 (lsH (hsM fL fR fV fM fE) (shW fW 0 m1 % 8192) mq)
          refine pw_iald C a1 ⟨by omega, by omega, by omega⟩ dX10_symbol_40 ?_
          obtain ⟨-, d2, d3, d4, d5, d6⟩ : fL (lsH (hsM fL fR fV fM fE) (shW fW 0 m1 % 8192) mq) = -2 ∧ fR (lsH (hsM fL fR fV fM fE) (shW fW 0 m1 % 8192) mq) = ((symC fL (lsH (hsM fL fR fV fM fE) (shW fW 0 m1 % 8192) mq).toNat : Nat) : Int) ∧ (1 ≤ fE (fR (lsH (hsM fL fR fV fM fE) (shW fW 0 m1 % 8192) mq)) ∧ fE (fR (lsH (hsM fL fR fV fM fE) (shW fW 0 m1 % 8192) mq)) ≤ 11) ∧ (∀ m : Int, 0 ≤ m → m < fE (fR (lsH (hsM fL fR fV fM fE) (shW fW 0 m1 % 8192) mq)) → atL (fM (12 * fR (lsH (hsM fL fR fV fM fE) (shW fW 0 m1 % 8192) mq) + m)) = true) ∧ t (lsH (hsM fL fR fV fM fE) (shW fW 0 m1 % 8192) mq) = .index (spW fM (12 * fR (lsH (hsM fL fR fV fM fE) (shW fW 0 m1 % 8192) mq)) (fE (fR (lsH (hsM fL fR fV fM fE) (shW fW 0 m1 % 8192) mq))).toNat) ∧ fH (lsH (hsM fL fR fV fM fE) (shW fW 0 m1 % 8192) mq) = 0 := by
            rcases hC.1 _ hk0 (by omega) with d | d | d
            · omega
            · exact d
            · omega
          have hsl := symC_lt (f := fL) (i := (lsH (hsM fL fR fV fM fE) (shW fW 0 m1 % 8192) mq).toNat) (j := n.toNat) (by omega) (by rw [show (((lsH (hsM fL fR fV fM fE) (shW fW 0 m1 % 8192) mq).toNat : Nat) : Int) = (lsH (hsM fL fR fV fM fE) (shW fW 0 m1 % 8192) mq) by omega]; omega)
          refine pw_callV (As := [.int (iZ ((symC fL (lsH (hsM fL fR fV fM fE) (shW fW 0 m1 % 8192) mq).toNat : Nat) : Int))]) (st := []) C (m_X10_isWord g l h0 h17 a8 a9 a16 u8 u9 u16 (by omega) (s1 := symC fL (lsH (hsM fL fR fV fM fE) (shW fW 0 m1 % 8192) mq).toNat) (by omega)) my_X10_isWord ml_X10_172 (pw_rec.of C h0 cl_X10.1) rfl ⟨Nat.le_of_ble_eq_true rfl, Nat.le_of_ble_eq_true rfl⟩ ⟨by (try dsimp only); omega, by (try dsimp only); omega⟩ (by rw [d2]; rfl) (Nat.le_of_ble_eq_true rfl) dX10_symbol_41 ?_
          rintro _ _ ⟨rfl, q, rfl, hq⟩
          rw [← d2] at hq
          refine pw_stk (st' := [.int (iZ (b2i q))]) rfl ?_
          refine pw_if_eqB (tgt := 49) C dX10_symbol_44 (by decide) (fun h_39 => ?_) (fun h_39 => ?_)
          · refine pw_aload_n (i := 0) C dX10_symbol_49 rfl rfl (Or.inr ⟨_, rfl⟩) ?_
            refine pw_get (j := 2) C cl_X10 fl_X10_17 (by decide) rfl h0 rfl dX10_symbol_50 ?_
            refine pw_stk (st' := [.ref (B 2)]) rfl ?_
            refine pw_iload_n (i := 2) C dX10_symbol_53 rfl rfl ?_
            have g_40 := u2 (lsH (hsM fL fR fV fM fE) (shW fW 0 m1 % 8192) mq)
            refine pw_iald C a2 ⟨by omega, by omega, by omega⟩ dX10_symbol_54 ?_
            refine pw_istore_n (i := 2) (lv' := [(0, .ref b), (1, .int (iZ (shW fW 0 m1 % 8192))), (2, .int (iZ (fN (lsH (hsM fL fR fV fM fE) (shW fW 0 m1 % 8192) mq))))]) C dX10_symbol_55 rfl (by decide) rfl ?_
            refine pw_goto (tgt := 18) C dX10_symbol_56 (by decide) ?_
            have hnx := hC.2.2.2 _ hk0 (by omega)
            rw [lsH_is (hsM fL fR fV fM fE) (shW fW 0 m1 % 8192) mq hk0] at hnx
            rw [hnx]
            exact ih _ (by omega) (by omega) (lsH_skip (Q := (fun j => fL j = -2 ∧ fE (fR j) = ((m1 : Nat) : Int) ∧ ∀ k : Int, 0 ≤ k → k < m1 → fM (12 * fR j + k) = fW k)) hk0 hno (fun a => by have := hq.mpr a.2; rw [h_39] at this; cases this))
          · refine pw_iload_n (i := 2) C dX10_symbol_47 rfl rfl ?_
            have hqq := hq.mp h_39
            exact pw_iret C hr dX10_symbol_48 (rNew.old h0 hR h7 h10 ⟨hk0, by omega, by rw [d5, hqq.1, Int.toNat_natCast, spW_eq (f := fW) (b := 0) m1 (fun m m0 m1 => by rw [Int.zero_add]; exact hqq.2 m m0 m1)]⟩)
  refine pw_aload_n (i := 0) C dX10_symbol_0 rfl rfl (Or.inr ⟨_, rfl⟩) ?_
  refine pw_iconst C dX10_symbol_1 ?_
  refine pw_aload_n (i := 0) C dX10_symbol_2 rfl rfl (Or.inr ⟨_, rfl⟩) ?_
  refine pw_get (j := 17) C cl_X10 fl_X10_145 (by decide) rfl h0 rfl dX10_symbol_3 ?_
  refine pw_stk (st' := [.int (iZ ((m1 : Nat) : Int)), .int (iZ 0), .ref b]) (by rw [h17]) ?_
  refine pw_iconst C dX10_symbol_6 ?_
  refine pw_callV (As := [.int (iZ 0), .int (iZ ((m1 : Nat) : Int)), .int (iZ 1)]) (st := []) C (sp_word g l h0 a16 u16 (m1 := m1) (by omega)) my_X10_spelled ml_X10_161 (pw_rec.of C h0 cl_X10.1) rfl ⟨Nat.le_of_ble_eq_true rfl, Nat.le_of_ble_eq_true rfl⟩ ⟨by (try dsimp only); omega, by (try dsimp only); omega⟩ rfl (Nat.le_of_ble_eq_true rfl) dX10_symbol_7 ?_
  rintro _ _ ⟨rfl, rfl⟩
  refine pw_stk (st' := [.int (iZ (shW fW 0 m1 % 8192))]) rfl ?_
  refine pw_istore_n (i := 1) (lv' := [(0, .ref b), (1, .int (iZ (shW fW 0 m1 % 8192)))]) C dX10_symbol_10 rfl (by decide) rfl ?_
  refine pw_aload_n (i := 0) C dX10_symbol_11 rfl rfl (Or.inr ⟨_, rfl⟩) ?_
  refine pw_get (j := 6) C cl_X10 fl_X10_30 (by decide) rfl h0 rfl dX10_symbol_12 ?_
  refine pw_stk (st' := [.ref (B 6)]) rfl ?_
  refine pw_iload_n (i := 1) C dX10_symbol_15 rfl rfl ?_
  have g_901 := u6 (shW fW 0 m1 % 8192)
  refine pw_iald C a6 ⟨by omega, by omega, by omega⟩ dX10_symbol_16 ?_
  refine pw_istore_n (i := 2) (lv' := [(0, .ref b), (1, .int (iZ (shW fW 0 m1 % 8192))), (2, .int (iZ (fD (shW fW 0 m1 % 8192))))]) C dX10_symbol_17 rfl (by decide) rfl ?_
  rw [hC.2.2.1 _ (by omega) (by omega)]
  exact loop n.toNat n.toNat (Nat.le_refl _) (by omega) (fun j j0 j1 => absurd j1 (by omega))

