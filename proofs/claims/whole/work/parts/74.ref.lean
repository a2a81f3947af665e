theorem RS.sy {g : pw_P} {w : pw_W} {B : Nat → Nat} {t : Int → Ob} {n o : Int} {s : Nat} {fZ : Int → Int} {X : Ob} (h : RS g w B t n s fZ) (ho : Vl t n o X) (hS : obS X = true) : ∃ (fR fM fE : Int → Int) (m : Nat), w 1002 = (B 1, some (AI g 40000 fR)) ∧ w 1009 = (B 8, some (AI g 48000 fM)) ∧ w 1010 = (B 9, some (AI g 4000 fE)) ∧ ((∀ j, inI (fR j)) ∧ (∀ j, inI (fM j)) ∧ (∀ j, inI (fE j))) ∧ (0 ≤ fR o ∧ fR o < 4000) ∧ fE (fR o) = (m : Int) ∧ (1 ≤ m ∧ m ≤ 11) ∧ atx X = wlF fM (12 * fR o) m m := by
  obtain ⟨fL, fR, fN, fH, fV, fD, fM, fE, a0, a1, a2, a3, a4, a5, a6, a8, a9, ⟨u0, u1, u2, u3, u4, u5, u6, u8, u9⟩, h1, hs, h2, hC⟩ := h
  obtain ⟨o0, o1, rfl⟩ := ho
  have hnd := hC.1 o o0 o1
  rw [hnd.p.2.2] at hS
  have e := of_decide_eq_true hS
  rcases hnd with d | d | d
  · omega
  · have hlt := symC_lt (f := fL) (i := o.toNat) (j := n.toNat) (by omega) (by rw [show ((o.toNat : Nat) : Int) = o by omega]; exact e)
    refine ⟨fR, fM, fE, (fE (fR o)).toNat, a1, a8, a9, ⟨u1, u8, u9⟩, by omega, by omega, by omega, ?_⟩
    rw [d.2.2.2.2.1]
    exact lts_w (by omega) (fun k k0 k1 => d.2.2.2.1 k k0 (by omega))
  · omega
set_option maxRecDepth 100000 in
set_option maxHeartbeats 4000000 in
/-- tellAtom -/
theorem m_X10_tellAtom (g : pw_P) (l : Launch) {w : pw_W} {b : Nat} {B : Nat → Nat} {x : Nat → Int} (h0 : w 1000 = (b, some (mdE B x))) {t : Int → Ob} {n : Int} {sN : Nat} {fZ : Int → Int} (hR : RS g w B t n sN fZ) (h7 : x 7 = n) (h10 : x 10 = ((sN : Nat) : Int)) (hK : RK t n) {o v : Int} {X : Ob} {L : List Int} (ho : Vl t n o X) (hp : obP X = false) (h15 : x 15 = v) (hO : MOut g w B v L) : pw_M g l yX10_tellAtom cX10_tellAtom 4 none { frames := 1, cells := 0, slots := 0, locals := 21 } [.ref b, .int (iZ o)] w (fun r w' => r = none ∧ (∃ v', w' 1000 = (b, some (mdE B (va_up x 15 v'))) ∧ MOut g w' B v' (L ++ atx X)) ∧ ∀ k, (k ≠ 1000 ∧ k ≠ 1015) → w' k = w k) := by
  refine pw_M.of (by decide) (Nat.le_of_ble_eq_true rfl) rfl ?_
  intro p e s m args below meth c C hr hn
  have hRn := hR.n
  have hor := Vl.rg hR ho
  refine pw_aload_n (i := 0) C dX10_tellAtom_0 rfl rfl (Or.inr ⟨_, rfl⟩) ?_
  refine pw_iload_n (i := 1) C dX10_tellAtom_1 rfl rfl ?_
  refine pw_callV (As := [.int (iZ o)]) (st := []) C (m_X10_isSymbol g l h0 hR h7 h10 ho) my_X10_isSymbol ml_X10_268 (pw_rec.of C h0 cl_X10.1) rfl ⟨Nat.le_of_ble_eq_true rfl, Nat.le_of_ble_eq_true rfl⟩ ⟨by (try dsimp only); omega, by (try dsimp only); omega⟩ rfl (Nat.le_of_ble_eq_true rfl) dX10_tellAtom_2 ?_
  rintro _ _ ⟨rfl, rfl⟩
  refine pw_stk (st' := [.int (iZ (b2i (obS X)))]) rfl ?_
  refine pw_if_eqB (tgt := 52) C dX10_tellAtom_5 (by decide) (fun h_901 => ?_) (fun h_901 => ?_)
  · have hS := h_901
    refine pw_lconst (z := 1) C dX10_tellAtom_52 (by decide) ?_
    refine pw_lstore_n (i := 2) (lv' := [(0, .ref b), (1, .int (iZ o)), (2, .long (lZ 1))]) C dX10_tellAtom_53 rfl (by decide) rfl ?_
    obtain ⟨fL, fR, fH, fV, l0, l1, l4, l5, ⟨m0, m1, m4, m5⟩, hln⟩ := RS.lens hR
    have hk3 := hln o X ho
    have hN : obN X = true := by
      have e1 := hk3.2.1
      rw [hp] at e1
      have e2 := of_decide_eq_false e1.symm
      have e3 := hk3.2.2.2.1
      rw [hS] at e3
      have e4 := of_decide_eq_false e3.symm
      have e5 := hk3.2.2.2.2.2.2
      rw [hk3.2.2.1]; exact decide_eq_true (by omega)
    skip
    obtain ⟨hva, hv0, hv1⟩ := (hln o X ho).2.2.2.2.2.1 hN
    have hatx : atx X = dgs (obAm X) := by cases X <;> simp_all [obN, atx, obAm]
    rw [hva] at hv0 hv1
    generalize hvg : obAm X = va at *
    have loop3 : ∀ (j : Nat) (w1 : pw_W) (v1 : Int) (M : List Int), j ≤ 19 → w1 1000 = (b, some (mdE B (va_up x 15 v1))) → MOut g w1 B v1 (L ++ M) → M ++ dgF va j = atx X → (∀ i, i < j → uz (i + 1) ≤ va ∨ i = 0) → (∀ k, (k ≠ 1000 ∧ k ≠ 1015) → w1 k = w k) → pw_G g p l e { frames := 1, cells := 0, slots := 0, locals := 21 } s m args below meth c 4 (pw_Q g below (fun r w' => r = none ∧ (∃ v', w' 1000 = (b, some (mdE B (va_up x 15 v'))) ∧ MOut g w' B v' (L ++ atx X)) ∧ ∀ k, (k ≠ 1000 ∧ k ≠ 1015) → w' k = w k) args s { frames := 1, cells := 0, slots := 0, locals := 21 }) 0 0 78 [(0, .ref b), (1, .int (iZ o)), (2, .long (lZ (uz j)))] [] w1 := by
      intro j
      induction j with
      | zero =>
        intro w1 v1 M hj y0 hO1 hq hall hf1
        have hu0 : uz 0 = 0 := rfl
        refine pw_lload_n (i := 2) C dX10_tellAtom_78 rfl rfl ?_
        refine pw_lconst (z := 0) C dX10_tellAtom_79 (by decide) ?_
        refine pw_lcmp C (by omega) (by omega) dX10_tellAtom_80 ?_
        refine pw_if_le (tgt := 113) C (cmpZ_in _ _) dX10_tellAtom_81 (by decide) (fun h_401 => ?_) (fun h_401 => ?_)
        · have h_401 := cmpZ_le1 h_401
          refine pw_vret C hr dX10_tellAtom_113 ⟨rfl, ⟨v1, y0, ?_⟩, hf1⟩
          rw [← hq, dgF, List.append_nil]; exact hO1
        · have h_401 := cmpZ_gt1 h_401
          exfalso; have : uz 0 = 0 := rfl; omega
      | succ j ih3 =>
        intro w1 v1 M hj y0 hO1 hq hall hf1
        have hup := uz_pos j
        have hui := uz_in (j := j + 1) hj
        refine pw_lload_n (i := 2) C dX10_tellAtom_78 rfl rfl ?_
        refine pw_lconst (z := 0) C dX10_tellAtom_79 (by decide) ?_
        refine pw_lcmp C (by omega) (by omega) dX10_tellAtom_80 ?_
        refine pw_if_le (tgt := 113) C (cmpZ_in _ _) dX10_tellAtom_81 (by decide) (fun h_501 => ?_) (fun h_501 => ?_)
        · have h_501 := cmpZ_le1 h_501
          exfalso; omega
        · have h_501 := cmpZ_gt1 h_501
          refine pw_aload_n (i := 0) C dX10_tellAtom_84 rfl rfl (Or.inr ⟨_, rfl⟩) ?_
          refine pw_bipush C dX10_tellAtom_85 (by decide) ?_
          refine pw_aload_n (i := 0) C dX10_tellAtom_87 rfl rfl (Or.inr ⟨_, rfl⟩) ?_
          refine pw_get (j := 5) C cl_X10 fl_X10_26 (by decide) rfl y0 rfl dX10_tellAtom_88 ?_
          refine pw_stk (st' := [.ref (B 5), .int (iZ 48), .ref b]) rfl ?_
          refine pw_iload_n (i := 1) C dX10_tellAtom_91 rfl rfl ?_
          have c_502 := (hf1 1006 (by omega)).trans l5
          refine pw_lald C c_502 ⟨by omega, by omega, by omega⟩ dX10_tellAtom_92 ?_
          refine pw_stk (st' := [.long (lZ va), .int (iZ 48), .ref b]) (by rw [hva]) ?_
          refine pw_lload_n (i := 2) C dX10_tellAtom_93 rfl rfl ?_
          refine pw_ldiv C ⟨by omega, by omega⟩ ⟨by omega, by omega⟩ dX10_tellAtom_94 ?_
          have hdq : 0 ≤ va / uz (j + 1) := Int.ediv_nonneg (by omega) (by omega)
          have hdq2 : va / uz (j + 1) ≤ va := Int.ediv_le_self _ (by omega)
          have hdr : 0 ≤ va / uz (j + 1) % 10 ∧ va / uz (j + 1) % 10 < 10 := ⟨Int.emod_nonneg _ (by decide), Int.emod_lt_of_pos _ (by decide)⟩
          refine pw_ldc2 (z := 10) C kj_X10_228 (by decide) dX10_tellAtom_95 ?_
          refine pw_lrem C ⟨by omega, by omega⟩ ⟨by omega, by omega⟩ dX10_tellAtom_98 ?_
          refine pw_l2i C dX10_tellAtom_99 ?_
          refine pw_iadd C dX10_tellAtom_100 ?_
          have O_506v := hO1.v
          refine pw_callV (As := [.int (iZ (48 + ((va / (uz (j + 1))) % 10)))]) (st := []) C (m_X10_tellLetter g l y0 (v := v1) rfl hO1 (c0 := (48 + ((va / (uz (j + 1))) % 10))) (by omega)) my_X10_tellLetter ml_X10_271 (pw_rec.of C y0 cl_X10.1) rfl ⟨Nat.le_of_ble_eq_true rfl, Nat.le_of_ble_eq_true rfl⟩ ⟨by (try dsimp only); omega, by (try dsimp only); omega⟩ rfl (Nat.le_of_ble_eq_true rfl) dX10_tellAtom_101 ?_
          rintro _ w_504 ⟨rfl, ⟨v_503, e_505, O_506⟩, o_507⟩
          refine pw_stk (st' := []) rfl ?_
          refine pw_lload_n (i := 2) C dX10_tellAtom_104 rfl rfl ?_
          refine pw_ldc2 (z := 10) C kj_X10_228 (by decide) dX10_tellAtom_105 ?_
          refine pw_ldiv C ⟨by omega, by omega⟩ ⟨by omega, by omega⟩ dX10_tellAtom_108 ?_
          refine pw_lstore_n (i := 2) (lv' := [(0, .ref b), (1, .int (iZ o)), (2, .long (lZ ((uz (j + 1)) / 10)))]) C dX10_tellAtom_109 rfl (by decide) rfl ?_
          refine pw_goto (tgt := 78) C dX10_tellAtom_110 (by decide) ?_
          rw [uz_div]
          exact ih3 w_504 v_503 (M ++ [(48 + ((va / (uz (j + 1))) % 10))]) (by omega) e_505 (by rw [← List.append_assoc]; exact O_506) (by rw [← hq, dgF, if_pos (hall j (by omega))]; simp) (fun i hi => hall i (by omega)) (fun k hk => (o_507 k (by omega)).trans (hf1 k (by omega)))
    have loop2 : ∀ (kk d : Nat), d + kk = 18 → d < 19 → (d = 0 ∨ uz (d + 1) ≤ va) → pw_G g p l e { frames := 1, cells := 0, slots := 0, locals := 21 } s m args below meth c 4 (pw_Q g below (fun r w' => r = none ∧ (∃ v', w' 1000 = (b, some (mdE B (va_up x 15 v'))) ∧ MOut g w' B v' (L ++ atx X)) ∧ ∀ k, (k ≠ 1000 ∧ k ≠ 1015) → w' k = w k) args s { frames := 1, cells := 0, slots := 0, locals := 21 }) 0 0 54 [(0, .ref b), (1, .int (iZ o)), (2, .long (lZ (uz (d + 1))))] [] w := by
      intro kk
      induction kk with
      | zero =>
        intro d hk hd19 hdl
        have hup := uz_pos d
        have hui := uz_in (j := d + 1) (by omega)
        have ih2 : ∀ d' : Nat, d' + 0 = 18 → d' < 19 → (d' = 0 ∨ uz (d' + 1) ≤ va) → False → True := fun _ _ _ _ _ => trivial
        refine pw_aload_n (i := 0) C dX10_tellAtom_54 rfl rfl (Or.inr ⟨_, rfl⟩) ?_
        refine pw_get (j := 5) C cl_X10 fl_X10_26 (by decide) rfl h0 rfl dX10_tellAtom_55 ?_
        refine pw_stk (st' := [.ref (B 5)]) rfl ?_
        refine pw_iload_n (i := 1) C dX10_tellAtom_58 rfl rfl ?_
        refine pw_lald C l5 ⟨by omega, by omega, by omega⟩ dX10_tellAtom_59 ?_
        refine pw_stk (st' := [.long (lZ va)]) (by rw [hva]) ?_
        refine pw_lload_n (i := 2) C dX10_tellAtom_60 rfl rfl ?_
        refine pw_ldiv C ⟨by omega, by omega⟩ ⟨by omega, by omega⟩ dX10_tellAtom_61 ?_
        have hdq : 0 ≤ va / uz (d + 1) := Int.ediv_nonneg (by omega) (by omega)
        have hdq2 : va / uz (d + 1) ≤ va := Int.ediv_le_self _ (by omega)
        refine pw_ldc2 (z := 10) C kj_X10_228 (by decide) dX10_tellAtom_62 ?_
        refine pw_lcmp C (by omega) (by omega) dX10_tellAtom_65 ?_
        refine pw_if_lt (tgt := 78) C (cmpZ_in _ _) dX10_tellAtom_66 (by decide) (fun h_201 => ?_) (fun h_201 => ?_)
        · have h_201 := cmpZ_lt1 h_201
          have hlt : va < uz (d + 1 + 1) := by
            have hu2 : 10 * uz (d + 1) = uz (d + 1 + 1) := by show 10 * (10 : Int) ^ d = 10 ^ (d + 1); rw [Int.pow_succ]; omega
            have := Int.lt_ediv_add_one_mul_self va (uz_pos d)
            have h9 : (va / uz (d + 1) + 1) * uz (d + 1) ≤ 10 * uz (d + 1) := Int.mul_le_mul_of_nonneg_right (by omega) (by omega)
            omega
          refine loop3 (d + 1) w v []  (by omega) (by rw [← h15]; exact h0) (by rw [List.append_nil]; exact hO) ?_ (fun j hj => ?_) (fun _ _ => rfl)
          · rw [List.nil_append]; show dgF va (d + 1) = _; rw [hatx, dgs]; exact (dgF_hi hlt 19 (by omega) (by omega)).symm
          · by_cases q : j = 0
            · exact Or.inr q
            · refine Or.inl (Int.le_trans ?_ (hdl.resolve_left (by omega)))
              show (10 : Int) ^ j ≤ 10 ^ d
              have h3 := Int.ofNat_le.mpr (Nat.pow_le_pow_right (n := 10) (by decide) (show j ≤ d by omega))
              rw [Int.natCast_pow, Int.natCast_pow] at h3; exact h3
        · have h_201 := cmpZ_ge1 h_201
          refine pw_ldc2 (z := 10) C kj_X10_228 (by decide) dX10_tellAtom_69 ?_
          refine pw_lload_n (i := 2) C dX10_tellAtom_72 rfl rfl ?_
          refine pw_lmul C dX10_tellAtom_73 ?_
          refine pw_lstore_n (i := 2) (lv' := [(0, .ref b), (1, .int (iZ o)), (2, .long (lZ (10 * (uz (d + 1)))))]) C dX10_tellAtom_74 rfl (by decide) rfl ?_
          refine pw_goto (tgt := 54) C dX10_tellAtom_75 (by decide) ?_
          have hu2 : 10 * uz (d + 1) = uz (d + 1 + 1) := by show 10 * (10 : Int) ^ d = 10 ^ (d + 1); rw [Int.pow_succ]; omega
          rw [hu2]
          have hge : uz (d + 1 + 1) ≤ va := by rw [← hu2]; have := Int.ediv_mul_le va (Int.ne_of_gt (uz_pos d)); have h10 : 10 * uz (d + 1) ≤ va / uz (d + 1) * uz (d + 1) := Int.mul_le_mul_of_nonneg_right (by omega) (by omega); omega
          have hd18 : d + 1 < 19 := by
            by_cases q : d + 1 < 19
            · exact q
            · exfalso; have e18 : d = 18 := by omega
              have e20 : uz (18 + 1 + 1) = 10000000000000000000 := by decide +kernel
              rw [e18, e20] at hge; omega
          omega
      | succ kk ih2 =>
        intro d hk hd19 hdl
        have hup := uz_pos d
        have hui := uz_in (j := d + 1) (by omega)
        refine pw_aload_n (i := 0) C dX10_tellAtom_54 rfl rfl (Or.inr ⟨_, rfl⟩) ?_
        refine pw_get (j := 5) C cl_X10 fl_X10_26 (by decide) rfl h0 rfl dX10_tellAtom_55 ?_
        refine pw_stk (st' := [.ref (B 5)]) rfl ?_
        refine pw_iload_n (i := 1) C dX10_tellAtom_58 rfl rfl ?_
        refine pw_lald C l5 ⟨by omega, by omega, by omega⟩ dX10_tellAtom_59 ?_
        refine pw_stk (st' := [.long (lZ va)]) (by rw [hva]) ?_
        refine pw_lload_n (i := 2) C dX10_tellAtom_60 rfl rfl ?_
        refine pw_ldiv C ⟨by omega, by omega⟩ ⟨by omega, by omega⟩ dX10_tellAtom_61 ?_
        have hdq : 0 ≤ va / uz (d + 1) := Int.ediv_nonneg (by omega) (by omega)
        have hdq2 : va / uz (d + 1) ≤ va := Int.ediv_le_self _ (by omega)
        refine pw_ldc2 (z := 10) C kj_X10_228 (by decide) dX10_tellAtom_62 ?_
        refine pw_lcmp C (by omega) (by omega) dX10_tellAtom_65 ?_
        refine pw_if_lt (tgt := 78) C (cmpZ_in _ _) dX10_tellAtom_66 (by decide) (fun h_201 => ?_) (fun h_201 => ?_)
        · have h_201 := cmpZ_lt1 h_201
          have hlt : va < uz (d + 1 + 1) := by
            have hu2 : 10 * uz (d + 1) = uz (d + 1 + 1) := by show 10 * (10 : Int) ^ d = 10 ^ (d + 1); rw [Int.pow_succ]; omega
            have := Int.lt_ediv_add_one_mul_self va (uz_pos d)
            have h9 : (va / uz (d + 1) + 1) * uz (d + 1) ≤ 10 * uz (d + 1) := Int.mul_le_mul_of_nonneg_right (by omega) (by omega)
            omega
          refine loop3 (d + 1) w v []  (by omega) (by rw [← h15]; exact h0) (by rw [List.append_nil]; exact hO) ?_ (fun j hj => ?_) (fun _ _ => rfl)
          · rw [List.nil_append]; show dgF va (d + 1) = _; rw [hatx, dgs]; exact (dgF_hi hlt 19 (by omega) (by omega)).symm
          · by_cases q : j = 0
            · exact Or.inr q
            · refine Or.inl (Int.le_trans ?_ (hdl.resolve_left (by omega)))
              show (10 : Int) ^ j ≤ 10 ^ d
              have h3 := Int.ofNat_le.mpr (Nat.pow_le_pow_right (n := 10) (by decide) (show j ≤ d by omega))
              rw [Int.natCast_pow, Int.natCast_pow] at h3; exact h3
        · have h_201 := cmpZ_ge1 h_201
          refine pw_ldc2 (z := 10) C kj_X10_228 (by decide) dX10_tellAtom_69 ?_
          refine pw_lload_n (i := 2) C dX10_tellAtom_72 rfl rfl ?_
          refine pw_lmul C dX10_tellAtom_73 ?_
          refine pw_lstore_n (i := 2) (lv' := [(0, .ref b), (1, .int (iZ o)), (2, .long (lZ (10 * (uz (d + 1)))))]) C dX10_tellAtom_74 rfl (by decide) rfl ?_
          refine pw_goto (tgt := 54) C dX10_tellAtom_75 (by decide) ?_
          have hu2 : 10 * uz (d + 1) = uz (d + 1 + 1) := by show 10 * (10 : Int) ^ d = 10 ^ (d + 1); rw [Int.pow_succ]; omega
          rw [hu2]
          have hge : uz (d + 1 + 1) ≤ va := by rw [← hu2]; have := Int.ediv_mul_le va (Int.ne_of_gt (uz_pos d)); have h10 : 10 * uz (d + 1) ≤ va / uz (d + 1) * uz (d + 1) := Int.mul_le_mul_of_nonneg_right (by omega) (by omega); omega
          have hd18 : d + 1 < 19 := by
            by_cases q : d + 1 < 19
            · exact q
            · exfalso; have e18 : d = 18 := by omega
              have e20 : uz (18 + 1 + 1) = 10000000000000000000 := by decide +kernel
              rw [e18, e20] at hge; omega
          exact ih2 (d + 1) (by omega) (by omega) (Or.inr hge)
    exact loop2 18 0 (by omega) (by omega) (Or.inl rfl)
  · have hS := h_901
    obtain ⟨fR, fM, fE, mw, q1, q8, q9, ⟨p1, p2, p3⟩, hfr, hE, hm, hatx⟩ := RS.sy hR ho hS
    refine pw_iconst C dX10_tellAtom_8 ?_
    refine pw_istore_n (i := 2) (lv' := [(0, .ref b), (1, .int (iZ o)), (2, .int (iZ 0))]) C dX10_tellAtom_9 rfl (by decide) rfl ?_
    have loop1 : ∀ (kk : Nat) (w1 : pw_W) (k : Nat) (v1 : Int) (M : List Int), k + kk = mw → w1 1000 = (b, some (mdE B (va_up x 15 v1))) → MOut g w1 B v1 (L ++ M) → M ++ wlF fM (12 * fR o) mw (mw - k) = wlF fM (12 * fR o) mw mw → (∀ k, (k ≠ 1000 ∧ k ≠ 1015) → w1 k = w k) → pw_G g p l e { frames := 1, cells := 0, slots := 0, locals := 21 } s m args below meth c 4 (pw_Q g below (fun r w' => r = none ∧ (∃ v', w' 1000 = (b, some (mdE B (va_up x 15 v'))) ∧ MOut g w' B v' (L ++ atx X)) ∧ ∀ k, (k ≠ 1000 ∧ k ≠ 1015) → w' k = w k) args s { frames := 1, cells := 0, slots := 0, locals := 21 }) 0 0 10 [(0, .ref b), (1, .int (iZ o)), (2, .int (iZ ((k : Nat) : Int)))] [] w1 := by
      intro kk
      induction kk with
      | zero =>
        intro w1 k v1 M hk y0 hO1 hq hf1
        have a1 := q1
        have a8 := q8
        have a9 := q9
        refine pw_iload_n (i := 2) C dX10_tellAtom_10 rfl rfl ?_
        refine pw_aload_n (i := 0) C dX10_tellAtom_11 rfl rfl (Or.inr ⟨_, rfl⟩) ?_
        refine pw_get (j := 9) C cl_X10 fl_X10_37 (by decide) rfl y0 rfl dX10_tellAtom_12 ?_
        refine pw_stk (st' := [.ref (B 9), .int (iZ ((k : Nat) : Int))]) rfl ?_
        refine pw_aload_n (i := 0) C dX10_tellAtom_15 rfl rfl (Or.inr ⟨_, rfl⟩) ?_
        refine pw_get (j := 1) C cl_X10 fl_X10_14 (by decide) rfl y0 rfl dX10_tellAtom_16 ?_
        refine pw_stk (st' := [.ref (B 1), .ref (B 9), .int (iZ ((k : Nat) : Int))]) rfl ?_
        refine pw_iload_n (i := 1) C dX10_tellAtom_19 rfl rfl ?_
        have c_11 := (hf1 1002 (by omega)).trans a1
        have g_12 := p1 o
        refine pw_iald C c_11 ⟨by omega, by omega, by omega⟩ dX10_tellAtom_20 ?_
        have c_13 := (hf1 1010 (by omega)).trans a9
        refine pw_iald C c_13 ⟨by omega, by omega, by omega⟩ dX10_tellAtom_21 ?_
        refine pw_stk (st' := [.int (iZ ((mw : Nat) : Int)), .int (iZ ((k : Nat) : Int))]) (by rw [hE]) ?_
        refine pw_icmp_ge (tgt := 51) C (by omega) (by omega) dX10_tellAtom_22 (by decide) (fun h_14 => ?_) (fun h_14 => ?_)
        · refine pw_vret C hr dX10_tellAtom_51 ⟨rfl, ⟨v1, y0, ?_⟩, hf1⟩
          have := hO1
          rw [hatx, ← hq, show mw - k = 0 by omega, wlF, List.append_nil]; exact this
        · exfalso; omega
      | succ kk ih =>
        intro w1 k v1 M hk y0 hO1 hq hf1
        have a1 := q1
        have a8 := q8
        have a9 := q9
        refine pw_iload_n (i := 2) C dX10_tellAtom_10 rfl rfl ?_
        refine pw_aload_n (i := 0) C dX10_tellAtom_11 rfl rfl (Or.inr ⟨_, rfl⟩) ?_
        refine pw_get (j := 9) C cl_X10 fl_X10_37 (by decide) rfl y0 rfl dX10_tellAtom_12 ?_
        refine pw_stk (st' := [.ref (B 9), .int (iZ ((k : Nat) : Int))]) rfl ?_
        refine pw_aload_n (i := 0) C dX10_tellAtom_15 rfl rfl (Or.inr ⟨_, rfl⟩) ?_
        refine pw_get (j := 1) C cl_X10 fl_X10_14 (by decide) rfl y0 rfl dX10_tellAtom_16 ?_
        refine pw_stk (st' := [.ref (B 1), .ref (B 9), .int (iZ ((k : Nat) : Int))]) rfl ?_
        refine pw_iload_n (i := 1) C dX10_tellAtom_19 rfl rfl ?_
        have c_41 := (hf1 1002 (by omega)).trans a1
        have g_42 := p1 o
        refine pw_iald C c_41 ⟨by omega, by omega, by omega⟩ dX10_tellAtom_20 ?_
        have c_43 := (hf1 1010 (by omega)).trans a9
        refine pw_iald C c_43 ⟨by omega, by omega, by omega⟩ dX10_tellAtom_21 ?_
        refine pw_stk (st' := [.int (iZ ((mw : Nat) : Int)), .int (iZ ((k : Nat) : Int))]) (by rw [hE]) ?_
        refine pw_icmp_ge (tgt := 51) C (by omega) (by omega) dX10_tellAtom_22 (by decide) (fun h_44 => ?_) (fun h_44 => ?_)
        · exfalso; omega
        · refine pw_aload_n (i := 0) C dX10_tellAtom_25 rfl rfl (Or.inr ⟨_, rfl⟩) ?_
          refine pw_aload_n (i := 0) C dX10_tellAtom_26 rfl rfl (Or.inr ⟨_, rfl⟩) ?_
          refine pw_get (j := 8) C cl_X10 fl_X10_34 (by decide) rfl y0 rfl dX10_tellAtom_27 ?_
          refine pw_stk (st' := [.ref (B 8), .ref b]) rfl ?_
          refine pw_bipush C dX10_tellAtom_30 (by decide) ?_
          refine pw_aload_n (i := 0) C dX10_tellAtom_32 rfl rfl (Or.inr ⟨_, rfl⟩) ?_
          refine pw_get (j := 1) C cl_X10 fl_X10_14 (by decide) rfl y0 rfl dX10_tellAtom_33 ?_
          refine pw_stk (st' := [.ref (B 1), .int (iZ 12), .ref (B 8), .ref b]) rfl ?_
          refine pw_iload_n (i := 1) C dX10_tellAtom_36 rfl rfl ?_
          have g_45 := p1 o
          refine pw_iald C c_41 ⟨by omega, by omega, by omega⟩ dX10_tellAtom_37 ?_
          refine pw_imul C dX10_tellAtom_38 ?_
          refine pw_iload_n (i := 2) C dX10_tellAtom_39 rfl rfl ?_
          refine pw_iadd C dX10_tellAtom_40 ?_
          have c_46 := (hf1 1009 (by omega)).trans a8
          have g_47 := p2 ((12 * fR o) + ((k : Nat) : Int))
          refine pw_iald C c_46 ⟨by omega, by omega, by omega⟩ dX10_tellAtom_41 ?_
          have O_51v := hO1.v
          refine pw_callV (As := [.int (iZ (fM ((12 * fR o) + ((k : Nat) : Int))))]) (st := []) C (m_X10_tellLetter g l y0 (v := v1) rfl hO1 (c0 := fM ((12 * fR o) + ((k : Nat) : Int))) (by exact p2 _)) my_X10_tellLetter ml_X10_271 (pw_rec.of C y0 cl_X10.1) rfl ⟨Nat.le_of_ble_eq_true rfl, Nat.le_of_ble_eq_true rfl⟩ ⟨by (try dsimp only); omega, by (try dsimp only); omega⟩ rfl (Nat.le_of_ble_eq_true rfl) dX10_tellAtom_42 ?_
          rintro _ w_49 ⟨rfl, ⟨v_48, e_50, O_51⟩, o_52⟩
          refine pw_stk (st' := []) rfl ?_
          refine pw_iinc (lv' := [(0, .ref b), (1, .int (iZ o)), (2, .int (iZ (((k : Nat) : Int) + 1)))]) C dX10_tellAtom_45 rfl (by decide) rfl ?_
          refine pw_goto (tgt := 10) C dX10_tellAtom_48 (by decide) ?_
          rw [show ((k : Nat) : Int) + 1 = ((k + 1 : Nat) : Int) by omega]
          exact ih w_49 (k + 1) v_48 (M ++ [fM ((12 * fR o) + ((k : Nat) : Int))]) (by omega) e_50 (by rw [← List.append_assoc]; exact O_51) (by rw [← hq, show mw - k = (mw - (k + 1)) + 1 by omega, wlF, show 12 * fR o + (mw : Int) - (((mw - (k + 1) : Nat) : Int) + 1) = 12 * fR o + ((k : Nat) : Int) by omega]; simp) (fun k hk => (o_52 k (by omega)).trans (hf1 k (by omega)))
    exact loop1 mw w 0 v [] (by omega) (by rw [← h15]; exact h0) (by rw [List.append_nil]; exact hO) rfl (fun _ _ => rfl)

