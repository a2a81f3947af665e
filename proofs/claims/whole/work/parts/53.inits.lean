/-- the known names, letter by letter -/
def kChk : Nat → Nat → Nat → Nat → Bool
  | 0, _, c, _ => decide (c = 24)
  | m + 1, i, c, s => if 0 < ixZ 1 (chZ 0 (i : Int)) then kChk m (i + 1) c (s * 47 + (ixZ 1 (chZ 0 (i : Int))).toNat) else decide (s = kn c ∧ c < 24) && kChk m (i + 1) (c + 1) 0
theorem kChk_all : kChk 113 0 0 0 = true := by decide +kernel
theorem kn_inj {i j : Nat} (hi : i < 24) (hj : j < 24) (h : kn i = kn j) : i = j := by
  have key : ∀ a b : Fin 24, kn a.val = kn b.val → a = b := by decide +kernel
  have := key ⟨i, hi⟩ ⟨j, hj⟩ h
  exact congrArg Fin.val this
theorem kn_lt {i : Nat} (hi : i < 24) : kn i < 4611686018427387904 := by
  have key : ∀ a : Fin 24, kn a.val < 4611686018427387904 := by decide +kernel
  exact key ⟨i, hi⟩
theorem hold_at {g : pw_P} {l : Launch} {w : pw_W} {cap av : Nat} {σ : Nat → Int → Int} {n : Int} (hav : (w 2).1 = av) (hS : St g w cap σ n) (hC : sC σ n) (hcap : n < cap) {a b h : Int} (ha : inL a) (hb : inI b) (hh : inI h) : pw_M g l yX6_hold cX6_hold 8 (some .int) { frames := 1, cells := 0, slots := 0, locals := 24 } [.ref av, .long (lZ a), .int (iZ b), .int (iZ h)] w (fun r w' => sHold g w w' cap σ n a b h r) := by
  subst hav; exact m_X6_hold g l hS hC hcap ha hb hh
/-- the names so far -/
def kNs (σ : Nat → Int → Int) (c : Nat) : Prop := ∀ k : Nat, k < c → σ 0 (k : Int) = ((kn k : Nat) : Int) ∧ σ 1 (k : Int) = -2 ∧ σ 2 (k : Int) = 0
theorem kNs.sT {σ : Nat → Int → Int} (h : kNs σ 24) : sT σ (fun i => .index (kn i.toNat)) 24 := by
  refine ⟨fun i h0 h1 => ?_, fun i j i0 i1 j0 j1 e0 e1 => ?_, ⟨Int.le_refl _, fun k hk => ?_⟩⟩
  · obtain ⟨a1, a2, a3⟩ := h i.toNat (by omega)
    rw [show ((i.toNat : Nat) : Int) = i by omega] at a1 a2 a3
    exact Or.inr (Or.inl ⟨a2, by omega, by rw [a1]; rfl, a3⟩)
  · have a := (h i.toNat (by omega)).1
    have b := (h j.toNat (by omega)).1
    rw [show ((i.toNat : Nat) : Int) = i by omega] at a
    rw [show ((j.toNat : Nat) : Int) = j by omega] at b
    have := kn_inj (i := i.toNat) (j := j.toNat) (by omega) (by omega) (by omega)
    omega
  · show Term.index (kn ((k : Int)).toNat) = _
    rw [Int.toNat_natCast]
set_option maxRecDepth 100000 in
set_option maxHeartbeats 4000000 in
/-- Store -/
theorem m_X6_init (g : pw_P) (l : Launch) {w : pw_W} {a : Nat} (hk2 : w 2 = (a, some (OB 6 [.null, .null, .null, .null, .null, .int (iZ 0)]))) : pw_M g l yX6_init cX6_init 5 none { frames := 4, cells := 5, slots := 9216, locals := 91 } [.ref a] w (fun r w' => r = none ∧ SB g w' a 2048 (fun i => .index (kn i.toNat)) 24 ∧ ∀ k, (k < 2 ∨ 7 < k) → w' k = w k) := by
  refine pw_M.of (by decide) (Nat.le_of_ble_eq_true rfl) rfl ?_
  intro p e s m args below meth c C hr hn
  have loop : ∀ (m0 : Nat) (w1 : pw_W) (i c0 sp1 : Nat) (σ : Nat → Int → Int), i + m0 = 113 → kChk m0 i c0 sp1 = true → c0 ≤ 24 → St g w1 2048 σ ((c0 : Nat) : Int) → sC σ ((c0 : Nat) : Int) → kNs σ c0 → (w1 2).1 = a → (∀ k, (k < 2 ∨ 7 < k) → w1 k = w k) → pw_G g p l e { frames := 4, cells := 5, slots := 9216, locals := 91 } s m args below meth c 5 (pw_Q g below (fun r w' => r = none ∧ SB g w' a 2048 (fun i => .index (kn i.toNat)) 24 ∧ ∀ k, (k < 2 ∨ 7 < k) → w' k = w k) args s { frames := 4, cells := 5, slots := 9216, locals := 91 }) 5 9216 61 [(0, .ref a), (1, .long (lZ ((sp1 : Nat) : Int))), (3, .int (iZ ((i : Nat) : Int)))] [] w1 := by
    intro m0
    induction m0 with
    | zero =>
      intro w1 i c0 sp1 σ hi hk hc24 hS1 hC1 hN1 ha1 hf1
      refine pw_iload_n (i := 3) C dX6_init_61 rfl rfl ?_
      refine pw_ldcS C C.str34 dX6_init_62 ?_
      refine pw_callV (As := []) (st := [.int (iZ ((i : Nat) : Int))]) C (m_J0_length_8abf5 g l (i := 0) (by decide)) my_J0_length_8abf5 ml_X6_36 (pw_rec.str C (by decide)) rfl ⟨Nat.le_of_ble_eq_true rfl, Nat.le_of_ble_eq_true rfl⟩ ⟨Nat.le_of_ble_eq_true rfl, Nat.le_of_ble_eq_true rfl⟩ rfl (Nat.le_of_ble_eq_true rfl) dX6_init_64 ?_
      rintro _ _ ⟨rfl, rfl⟩
      refine pw_stk (st' := [.int (iZ 113), .int (iZ ((i : Nat) : Int))]) rfl ?_
      refine pw_icmp_ge (tgt := 118) C (by omega) (by omega) dX6_init_67 (by decide) (fun h_11 => ?_) (fun h_11 => ?_)
      · have hc : c0 = 24 := of_decide_eq_true hk
        subst hc
        exact pw_vret C hr dX6_init_118 ⟨rfl, ⟨ha1, ⟨σ, hS1, hC1, hN1.sT⟩, fun i h0 h1 => kn_lt (by omega)⟩, hf1⟩
      · exfalso; omega
    | succ m0 ih =>
      intro w1 i c0 sp1 σ hi hk hc24 hS1 hC1 hN1 ha1 hf1
      have hc1 : w1 2 = (a, some (OB 6 [.ref (w1 3).1, .ref (w1 4).1, .ref (w1 5).1, .ref (w1 6).1, .ref (w1 7).1, .int (iZ ((c0 : Nat) : Int))])) := hS1.1.trans (by rw [ha1])
      refine pw_iload_n (i := 3) C dX6_init_61 rfl rfl ?_
      refine pw_ldcS C C.str34 dX6_init_62 ?_
      refine pw_callV (As := []) (st := [.int (iZ ((i : Nat) : Int))]) C (m_J0_length_8abf5 g l (i := 0) (by decide)) my_J0_length_8abf5 ml_X6_36 (pw_rec.str C (by decide)) rfl ⟨Nat.le_of_ble_eq_true rfl, Nat.le_of_ble_eq_true rfl⟩ ⟨Nat.le_of_ble_eq_true rfl, Nat.le_of_ble_eq_true rfl⟩ rfl (Nat.le_of_ble_eq_true rfl) dX6_init_64 ?_
      rintro _ _ ⟨rfl, rfl⟩
      refine pw_stk (st' := [.int (iZ 113), .int (iZ ((i : Nat) : Int))]) rfl ?_
      refine pw_icmp_ge (tgt := 118) C (by omega) (by omega) dX6_init_67 (by decide) (fun h_51 => ?_) (fun h_51 => ?_)
      · exfalso; omega
      · refine pw_ldcS C C.str42 dX6_init_70 ?_
        refine pw_ldcS C C.str34 dX6_init_72 ?_
        refine pw_iload_n (i := 3) C dX6_init_74 rfl rfl ?_
        refine pw_callV (As := [.int (iZ ((i : Nat) : Int))]) (st := [.ref (g.2.2.2 1)]) C (m_J0_charAt_5068e g l (i := 0) (by decide) (x := ((i : Nat) : Int)) (by have : chN 0 = 113 := rfl; omega)) my_J0_charAt_5068e ml_X6_44 (pw_rec.str C (by decide)) rfl ⟨Nat.le_of_ble_eq_true rfl, Nat.le_of_ble_eq_true rfl⟩ ⟨Nat.le_of_ble_eq_true rfl, Nat.le_of_ble_eq_true rfl⟩ rfl (Nat.le_of_ble_eq_true rfl) dX6_init_75 ?_
        rintro _ _ ⟨rfl, rfl⟩
        have hch := chZ_in 0 ((i : Nat) : Int)
        refine pw_stk (st' := [.int (iZ (chZ 0 ((i : Nat) : Int))), .ref (g.2.2.2 1)]) rfl ?_
        refine pw_callV (As := [.int (iZ (chZ 0 ((i : Nat) : Int)))]) (st := []) C (m_J0_indexOf_0f7a4 g l (i := 1) (by decide) (x := (chZ 0 ((i : Nat) : Int))) (by omega)) my_J0_indexOf_0f7a4 ml_X6_48 (pw_rec.str C (by decide)) rfl ⟨Nat.le_of_ble_eq_true rfl, Nat.le_of_ble_eq_true rfl⟩ ⟨Nat.le_of_ble_eq_true rfl, Nat.le_of_ble_eq_true rfl⟩ rfl (Nat.le_of_ble_eq_true rfl) dX6_init_78 ?_
        rintro _ _ ⟨rfl, rfl⟩
        have g_52 := ixZ_rng (chZ 0 ((i : Nat) : Int))
        refine pw_stk (st' := [.int (iZ (ixZ 1 (chZ 0 ((i : Nat) : Int))))]) rfl ?_
        refine pw_istore (lv' := [(0, .ref a), (1, .long (lZ ((sp1 : Nat) : Int))), (3, .int (iZ ((i : Nat) : Int))), (4, .int (iZ (ixZ 1 (chZ 0 ((i : Nat) : Int)))))]) C dX6_init_81 (by decide) rfl ?_
        refine pw_iload C dX6_init_83 rfl ?_
        refine pw_if_le (tgt := 101) C (by omega) dX6_init_85 (by decide) (fun h_53 => ?_) (fun h_53 => ?_)
        · refine pw_aload_n (i := 0) C dX6_init_101 rfl rfl (Or.inr ⟨_, rfl⟩) ?_
          refine pw_lload_n (i := 1) C dX6_init_102 rfl rfl ?_
          refine pw_bipush C dX6_init_103 (by decide) ?_
          refine pw_iconst C dX6_init_105 ?_
          rw [kChk, if_neg (by omega)] at hk
          simp only [Bool.and_eq_true, decide_eq_true_eq] at hk
          have hkl := kn_lt hk.1.2
          have hke := hk.1.1
          refine pw_callV (As := [.long (lZ ((sp1 : Nat) : Int)), .int (iZ (-2)), .int (iZ 0)]) (st := []) C (hold_at ha1 hS1 hC1 (by omega) (a := ((sp1 : Nat) : Int)) (by omega) (by decide) (by decide)) my_X6_hold ml_X6_54 (pw_rec.of C hc1 cl_X6.1) rfl ⟨Nat.le_of_ble_eq_true rfl, Nat.le_of_ble_eq_true rfl⟩ ⟨Nat.le_of_ble_eq_true rfl, Nat.le_of_ble_eq_true rfl⟩ rfl (Nat.le_of_ble_eq_true rfl) dX6_init_106 ?_
          rintro _ w2 (⟨j, j0, j1, j2, j3, -⟩ | ⟨-, rfl, hS2, ha2, ho2⟩)
          · exfalso
            have := (hN1 j.toNat (by omega)).1
            rw [show ((j.toNat : Nat) : Int) = j by omega] at this
            have := kn_inj (i := j.toNat) (j := c0) (by omega) (by omega) (by omega)
            omega
          refine pw_stk (st' := [.int (iZ ((c0 : Nat) : Int))]) rfl ?_
          refine pw_pop C dX6_init_109 rfl ?_
          refine pw_lconst (z := 0) C dX6_init_110 (by decide) ?_
          refine pw_lstore_n (i := 1) (lv' := [(0, .ref a), (1, .long (lZ 0)), (3, .int (iZ ((i : Nat) : Int))), (4, .int (iZ (ixZ 1 (chZ 0 ((i : Nat) : Int)))))]) C dX6_init_111 rfl (by decide) rfl ?_
          refine pw_iinc (lv' := [(0, .ref a), (1, .long (lZ 0)), (3, .int (iZ (((i : Nat) : Int) + 1))), (4, .int (iZ (ixZ 1 (chZ 0 ((i : Nat) : Int)))))]) C dX6_init_112 rfl (by decide) rfl ?_
          refine pw_goto (tgt := 61) C dX6_init_115 (by decide) ?_
          refine pw_sub [0, 1, 2] rfl ?_
          refine pw_wide 5 9216 (by (try dsimp only); omega) (by (try dsimp only); omega) ?_
          rw [show ((i : Nat) : Int) + 1 = ((i + 1 : Nat) : Int) by omega]
          rw [show ((c0 : Nat) : Int) + 1 = ((c0 + 1 : Nat) : Int) by omega] at hS2
          refine ih w2 (i + 1) (c0 + 1) 0 _ (by omega) hk.2 (by omega) hS2 (sC_push hC1 (by omega)) (fun k hk2 => ?_) (ha2.trans ha1) (fun k hk => (ho2 k hk).trans (hf1 k hk))
          by_cases e : k = c0
          · subst e; exact ⟨by show upz (σ 0) _ _ _ = _; rw [upz_self, hke], upz_self _ _ _, upz_self _ _ _⟩
          · have := hN1 k (by omega)
            exact ⟨by show upz (σ 0) _ _ _ = _; rw [upz_ne _ _ (by omega)]; exact this.1, by show upz (σ 1) _ _ _ = _; rw [upz_ne _ _ (by omega)]; exact this.2.1, by show upz (σ 2) _ _ _ = _; rw [upz_ne _ _ (by omega)]; exact this.2.2⟩
        · refine pw_lload_n (i := 1) C dX6_init_88 rfl rfl ?_
          refine pw_ldc2 (z := 47) C kj_X6_52 (by decide) dX6_init_89 ?_
          refine pw_lmul C dX6_init_92 ?_
          refine pw_iload C dX6_init_93 rfl ?_
          refine pw_i2l C (by omega) dX6_init_95 ?_
          refine pw_ladd C dX6_init_96 ?_
          refine pw_lstore_n (i := 1) (lv' := [(0, .ref a), (1, .long (lZ ((((sp1 : Nat) : Int) * 47) + (ixZ 1 (chZ 0 ((i : Nat) : Int)))))), (3, .int (iZ ((i : Nat) : Int))), (4, .int (iZ (ixZ 1 (chZ 0 ((i : Nat) : Int)))))]) C dX6_init_97 rfl (by decide) rfl ?_
          refine pw_goto (tgt := 112) C dX6_init_98 (by decide) ?_
          refine pw_iinc (lv' := [(0, .ref a), (1, .long (lZ ((((sp1 : Nat) : Int) * 47) + (ixZ 1 (chZ 0 ((i : Nat) : Int)))))), (3, .int (iZ (((i : Nat) : Int) + 1))), (4, .int (iZ (ixZ 1 (chZ 0 ((i : Nat) : Int)))))]) C dX6_init_112 rfl (by decide) rfl ?_
          refine pw_goto (tgt := 61) C dX6_init_115 (by decide) ?_
          refine pw_sub [0, 1, 2] rfl ?_
          refine pw_wide 5 9216 (by (try dsimp only); omega) (by (try dsimp only); omega) ?_
          rw [show ((i : Nat) : Int) + 1 = ((i + 1 : Nat) : Int) by omega]
          rw [kChk, if_pos (by omega)] at hk
          rw [show (((sp1 : Nat) : Int) * 47 + ixZ 1 (chZ 0 ((i : Nat) : Int))) = ((sp1 * 47 + (ixZ 1 (chZ 0 ((i : Nat) : Int))).toNat : Nat) : Int) by omega]
          exact ih w1 (i + 1) c0 _ σ (by omega) hk hc24 hS1 hC1 hN1 ha1 hf1
  refine pw_aload_n (i := 0) C dX6_init_0 rfl rfl (Or.inr ⟨_, rfl⟩) ?_
  refine pw_obj (st := []) C ml_X6_3 ob_i ob_c (Nat.le_of_ble_eq_true rfl) (Nat.le_of_ble_eq_true rfl) dX6_init_1 ?_
  refine pw_aload_n (i := 0) C dX6_init_4 rfl rfl (Or.inr ⟨_, rfl⟩) ?_
  refine pw_sipush C dX6_init_5 (by decide) ?_
  refine pw_newA 3 1 (atype := .long) (N := 2048) C ar_long rfl (new_AJ g 2048) rfl (by decide) (by decide) (Nat.le_of_ble_eq_true rfl) (Nat.le_of_ble_eq_true rfl) dX6_init_8 (fun a_301 w_302 k_303 o_304 => ?_)
  have c_305 := (o_304 2 (by omega)).trans hk2
  refine pw_put (j := 0) C cl_X6 fl_X6_11 (by decide) rfl rfl rfl rfl rfl c_305 (Nat.le_of_ble_eq_true rfl) dX6_init_10 (fun w_308 k_306 o_307 => ?_)
  have k_309 : w_308 2 = (a, some (OB 6 [.ref a_301, .null, .null, .null, .null, .int (iZ 0)])) := k_306
  refine pw_aload_n (i := 0) C dX6_init_13 rfl rfl (Or.inr ⟨_, rfl⟩) ?_
  refine pw_sipush C dX6_init_14 (by decide) ?_
  refine pw_newA 4 0 (atype := .int) (N := 2048) C ar_int rfl (new_AI g 2048) rfl (by decide) (by decide) (Nat.le_of_ble_eq_true rfl) (Nat.le_of_ble_eq_true rfl) dX6_init_17 (fun a_310 w_311 k_312 o_313 => ?_)
  have c_314 := (o_313 2 (by omega)).trans k_309
  refine pw_put (j := 1) C cl_X6 fl_X6_15 (by decide) rfl rfl rfl rfl rfl c_314 (Nat.le_of_ble_eq_true rfl) dX6_init_19 (fun w_317 k_315 o_316 => ?_)
  have k_318 : w_317 2 = (a, some (OB 6 [.ref a_301, .ref a_310, .null, .null, .null, .int (iZ 0)])) := k_315
  refine pw_aload_n (i := 0) C dX6_init_22 rfl rfl (Or.inr ⟨_, rfl⟩) ?_
  refine pw_sipush C dX6_init_23 (by decide) ?_
  refine pw_newA 5 0 (atype := .int) (N := 2048) C ar_int rfl (new_AI g 2048) rfl (by decide) (by decide) (Nat.le_of_ble_eq_true rfl) (Nat.le_of_ble_eq_true rfl) dX6_init_26 (fun a_319 w_320 k_321 o_322 => ?_)
  have c_323 := (o_322 2 (by omega)).trans k_318
  refine pw_put (j := 2) C cl_X6 fl_X6_19 (by decide) rfl rfl rfl rfl rfl c_323 (Nat.le_of_ble_eq_true rfl) dX6_init_28 (fun w_326 k_324 o_325 => ?_)
  have k_327 : w_326 2 = (a, some (OB 6 [.ref a_301, .ref a_310, .ref a_319, .null, .null, .int (iZ 0)])) := k_324
  refine pw_aload_n (i := 0) C dX6_init_31 rfl rfl (Or.inr ⟨_, rfl⟩) ?_
  refine pw_sipush C dX6_init_32 (by decide) ?_
  refine pw_newA 6 0 (atype := .int) (N := 2048) C ar_int rfl (new_AI g 2048) rfl (by decide) (by decide) (Nat.le_of_ble_eq_true rfl) (Nat.le_of_ble_eq_true rfl) dX6_init_35 (fun a_328 w_329 k_330 o_331 => ?_)
  have c_332 := (o_331 2 (by omega)).trans k_327
  refine pw_put (j := 3) C cl_X6 fl_X6_22 (by decide) rfl rfl rfl rfl rfl c_332 (Nat.le_of_ble_eq_true rfl) dX6_init_37 (fun w_335 k_333 o_334 => ?_)
  have k_336 : w_335 2 = (a, some (OB 6 [.ref a_301, .ref a_310, .ref a_319, .ref a_328, .null, .int (iZ 0)])) := k_333
  refine pw_aload_n (i := 0) C dX6_init_40 rfl rfl (Or.inr ⟨_, rfl⟩) ?_
  refine pw_sipush C dX6_init_41 (by decide) ?_
  refine pw_newA 7 0 (atype := .int) (N := 1024) C ar_int rfl (new_AI g 1024) rfl (by decide) (by decide) (Nat.le_of_ble_eq_true rfl) (Nat.le_of_ble_eq_true rfl) dX6_init_44 (fun a_337 w_338 k_339 o_340 => ?_)
  have c_341 := (o_340 2 (by omega)).trans k_336
  refine pw_putF (j := 4) C hn cl_X6 fl_X6_25 (by decide) rfl rfl rfl rfl rfl rfl c_341 (Nat.le_of_ble_eq_true rfl) dX6_init_46 (fun w_344 k_342 o_343 => ?_)
  have k_345 : w_344 2 = (a, some (OB 6 [.ref a_301, .ref a_310, .ref a_319, .ref a_328, .ref a_337, .int (iZ 0)])) := k_342
  refine pw_aload_n (i := 0) C dX6_init_49 rfl rfl (Or.inr ⟨_, rfl⟩) ?_
  refine pw_get (j := 4) C cl_X6 fl_X6_25 (by decide) rfl k_345 rfl dX6_init_50 ?_
  refine pw_iconst C dX6_init_53 ?_
  have c_346 := (o_343 7 (by omega)).trans k_339
  refine pw_callS (As := [.ref a_337, .int (iZ (-1))]) (st := []) C (m_J7_fill_53178 g l (k := 7) c_346 (by decide) (by decide)) my_J7_fill_53178 ml_X6_28 rfl ⟨Nat.le_of_ble_eq_true rfl, Nat.le_of_ble_eq_true rfl⟩ ⟨by (try dsimp only); omega, by (try dsimp only); omega⟩ rfl (Nat.le_of_ble_eq_true rfl) dX6_init_54 ?_
  rintro _ w9 ⟨rfl, fb, f1, f2, f3, f4⟩
  refine pw_stk (st' := []) rfl ?_
  refine pw_lconst (z := 0) C dX6_init_57 (by decide) ?_
  refine pw_lstore_n (i := 1) (lv' := [(0, .ref a), (1, .long (lZ 0))]) C dX6_init_58 rfl (by decide) rfl ?_
  refine pw_iconst C dX6_init_59 ?_
  refine pw_istore_n (i := 3) (lv' := [(0, .ref a), (1, .long (lZ 0)), (3, .int (iZ 0))]) C dX6_init_60 rfl (by decide) rfl ?_
  have c_347 := (f4 2 (by omega)).trans k_345
  have c_348 := ((f4 3 (by omega)).trans ((o_343 3 (by omega)).trans ((o_340 3 (by omega)).trans ((o_334 3 (by omega)).trans ((o_331 3 (by omega)).trans ((o_325 3 (by omega)).trans ((o_322 3 (by omega)).trans ((o_316 3 (by omega)).trans ((o_313 3 (by omega)).trans (o_307 3 (by omega))))))))))).trans k_303
  have c_349 := ((f4 4 (by omega)).trans ((o_343 4 (by omega)).trans ((o_340 4 (by omega)).trans ((o_334 4 (by omega)).trans ((o_331 4 (by omega)).trans ((o_325 4 (by omega)).trans ((o_322 4 (by omega)).trans (o_316 4 (by omega))))))))).trans k_312
  have c_350 := ((f4 5 (by omega)).trans ((o_343 5 (by omega)).trans ((o_340 5 (by omega)).trans ((o_334 5 (by omega)).trans ((o_331 5 (by omega)).trans (o_325 5 (by omega))))))).trans k_321
  have c_351 := ((f4 6 (by omega)).trans ((o_343 6 (by omega)).trans ((o_340 6 (by omega)).trans (o_334 6 (by omega))))).trans k_330
  refine pw_wide 5 9216 (Nat.le_of_ble_eq_true rfl) (Nat.le_of_ble_eq_true rfl) ?_
  refine loop 113 w9 0 0 0 (sM (fun _ => 0) (fun _ => 0) (fun _ => 0) (fun _ => 0) fb) rfl kChk_all (by decide) ?_ ?_ (fun k hk => absurd hk (Nat.not_lt_zero _)) (by rw [c_347]) (fun k hk => (f4 k (by omega)).trans ((o_343 k (by omega)).trans ((o_340 k (by omega)).trans ((o_334 k (by omega)).trans ((o_331 k (by omega)).trans ((o_325 k (by omega)).trans ((o_322 k (by omega)).trans ((o_316 k (by omega)).trans ((o_313 k (by omega)).trans ((o_307 k (by omega)).trans (o_304 k (by omega))))))))))))
  · refine ⟨?_, ?_, ?_, ?_, ?_, ?_, ⟨by decide, by decide, by decide⟩, fun j => (by decide : inL 0), fun k j hk => ?_⟩
    · rw [c_347, c_348, c_349, c_350, c_351, f1]; rfl
    · rw [c_348]; rfl
    · rw [c_349]; rfl
    · rw [c_350]; rfl
    · rw [c_351]; rfl
    · rw [f1]; rfl
    · have hfb : ∀ j, inI (fb j) := by
        intro j
        by_cases hj : 0 ≤ j ∧ j < 1024
        · rw [f2 j hj.1 hj.2]; decide
        · rw [f3 j hj]; decide
      rcases k with _ | _ | _ | _ | _ | k
      · exact absurd rfl hk
      · exact (by decide : inI 0)
      · exact (by decide : inI 0)
      · exact (by decide : inI 0)
      · exact hfb j
      · exact hfb j
  · exact ⟨fun c c0 c1 => f2 c c0 c1, fun i i0 i1 => absurd i1 (by omega)⟩

