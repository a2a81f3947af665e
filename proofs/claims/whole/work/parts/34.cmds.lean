abbrev cmE (A : Nat → Nat) (rs kp : Int) : va_E := OB 1 [.ref (A 2), .ref (A 16), .ref (A 18), .ref (A 21), .int (iZ rs), .int (iZ kp)]
set_option maxRecDepth 100000 in
set_option maxHeartbeats 4000000 in
/-- isFunctionName -/
theorem m_X1_isFunctionName (g : pw_P) (l : Launch) {w : pw_W} {A : Nat → Nat} {cap : Nat} {t : Int → Ob} {n rs kp : Int} (hS : SB g w (A 2) cap t n) (hC : w 20 = (A 20, some (cmE A rs kp))) {x : Int} {X : Ob} (hx : Vl t n x X) : pw_M g l yX1_isFunctionName cX1_isFunctionName 2 (some .boolean) { frames := 1, cells := 0, slots := 0, locals := 21 } [.ref (A 20), .int (iZ x)] w (fun r w' => w = w' ∧ r = some (.int (iZ (b2i (isFN X))))) := by
  refine pw_M.of (by decide) (Nat.le_of_ble_eq_true rfl) rfl ?_
  intro p e s m args below meth c C hr hn
  have hn0 := hS.n
  have hxr := Vl.rng hS hx
  have hkx := Vl.kix hS hx
  refine pw_aload_n (i := 0) C dX1_isFunctionName_0 rfl rfl (Or.inr ⟨_, rfl⟩) ?_
  refine pw_get (j := 0) C cl_X1 fl_X1_9 (by decide) rfl hC rfl dX1_isFunctionName_1 ?_
  refine pw_iload_n (i := 1) C dX1_isFunctionName_4 rfl rfl ?_
  refine pw_callV (As := [.int (iZ x)]) (st := []) C (vr_isSymbol hS hx) my_X6_isSymbol ml_X1_180 (hS.rec C) rfl ⟨Nat.le_of_ble_eq_true rfl, Nat.le_of_ble_eq_true rfl⟩ ⟨Nat.le_of_ble_eq_true rfl, Nat.le_of_ble_eq_true rfl⟩ rfl (Nat.le_of_ble_eq_true rfl) dX1_isFunctionName_5 ?_
  rintro _ _ ⟨rfl, rfl⟩
  refine pw_stk (st' := [.int (iZ (b2i (obS X)))]) rfl ?_
  refine pw_if_eqB (tgt := 21) C dX1_isFunctionName_8 (by decide) (fun h_1 => ?_) (fun h_1 => ?_)
  · refine pw_iconst C dX1_isFunctionName_21 ?_
    exact pw_zret C hr (by decide +kernel) dX1_isFunctionName_22 ⟨rfl, by rw [show isFN X = false from by unfold isFN; rw [h_1]; rfl]; rfl⟩
  · refine pw_iload_n (i := 1) C dX1_isFunctionName_11 rfl rfl ?_
    refine pw_bipush C dX1_isFunctionName_12 (by decide) ?_
    refine pw_icmp_le (tgt := 21) C (by omega) (by omega) dX1_isFunctionName_14 (by decide) (fun h_2 => ?_) (fun h_2 => ?_)
    · refine pw_iconst C dX1_isFunctionName_21 ?_
      exact pw_zret C hr (by decide +kernel) dX1_isFunctionName_22 ⟨rfl, by rw [show isFN X = false from by unfold isFN; rw [decide_eq_false (by split at hkx <;> omega), Bool.and_false]]; rfl⟩
    · refine pw_iconst C dX1_isFunctionName_17 ?_
      refine pw_goto (tgt := 22) C dX1_isFunctionName_18 (by decide) ?_
      exact pw_zret C hr (by decide +kernel) dX1_isFunctionName_22 ⟨rfl, by rw [show isFN X = true from by unfold isFN; rw [h_1, decide_eq_true (by split at hkx <;> omega)]; rfl]; rfl⟩

set_option maxRecDepth 100000 in
set_option maxHeartbeats 4000000 in
/-- areParameters -/
theorem m_X1_areParameters (g : pw_P) (l : Launch) {w : pw_W} {A : Nat → Nat} {cap : Nat} {t : Int → Ob} {n rs kp : Int} (hS : SB g w (A 2) cap t n) (hC : w 20 = (A 20, some (cmE A rs kp))) {x : Int} {X : Ob} (hx : Vl t n x X) : pw_M g l yX1_areParameters cX1_areParameters 6 (some .boolean) { frames := 3, cells := 0, slots := 0, locals := 66 } [.ref (A 20), .int (iZ x)] w (fun r w' => w = w' ∧ r = some (.int (iZ (b2i (arePs X))))) := by
  refine pw_M.of (by decide) (Nat.le_of_ble_eq_true rfl) rfl ?_
  intro p e s m args below meth c C hr hn
  have hn0 := hS.n
  have hxl := obLen_ge X
  have hxh := Vl.ht hS hx
  have hxo := obLen_le_ht X
  have loop : ∀ (kk : Nat) (hps : arePs X = psOk X) (y i : Int) (R0 : Ob), (obLen R0).toNat = kk → 0 ≤ obLen R0 → Vl t n y R0 → 0 ≤ i → i + obLen R0 = obLen X → psOk R0 = psOk X → pw_G g p l e { frames := 3, cells := 0, slots := 0, locals := 66 } s m args below meth c 6 (pw_Q g below (fun r w' => w = w' ∧ r = some (.int (iZ (b2i (arePs X))))) args s { frames := 3, cells := 0, slots := 0, locals := 66 }) 0 0 27 [(0, .ref (A 20)), (1, .int (iZ x)), (2, .int (iZ (obLen X))), (3, .int (iZ y)), (4, .int (iZ i))] [] w := by
    intro kk
    induction kk with
    | zero =>
      intro hps y i R0 hk hlr hy hi0 hi hq
      have hnp : obP R0 = false := by
        cases hb : obP R0 with
        | false => rfl
        | true => have := obLen_cdr hb hlr; omega
      refine pw_iload C dX1_areParameters_27 rfl ?_
      refine pw_iload_n (i := 2) C dX1_areParameters_29 rfl rfl ?_
      refine pw_icmp_ge (tgt := 85) C (by omega) (by omega) dX1_areParameters_30 (by decide) (fun h_11 => ?_) (fun h_11 => ?_)
      · refine pw_iconst C dX1_areParameters_85 ?_
        exact pw_zret C hr (by decide +kernel) dX1_areParameters_86 ⟨rfl, by rw [show arePs X = true from by rw [hps, ← hq, (obLen_np hnp hlr).1]; rfl]; rfl⟩
      · exfalso; omega
    | succ kk ih =>
      intro hps y i R0 hk hlr hy hi0 hi hq
      have hpr := obLen_pos (x := R0) (by omega)
      have ih := ih hps
      refine pw_iload C dX1_areParameters_27 rfl ?_
      refine pw_iload_n (i := 2) C dX1_areParameters_29 rfl rfl ?_
      refine pw_icmp_ge (tgt := 85) C (by omega) (by omega) dX1_areParameters_30 (by decide) (fun h_21 => ?_) (fun h_21 => ?_)
      · exfalso; omega
      · refine pw_aload_n (i := 0) C dX1_areParameters_33 rfl rfl (Or.inr ⟨_, rfl⟩) ?_
        refine pw_get (j := 0) C cl_X1 fl_X1_9 (by decide) rfl hC rfl dX1_areParameters_34 ?_
        refine pw_iload_n (i := 3) C dX1_areParameters_37 rfl rfl ?_
        refine pw_callV (As := [.int (iZ y)]) (st := []) C (vr_head hS hy) my_X6_head ml_X1_60 (hS.rec C) rfl ⟨Nat.le_of_ble_eq_true rfl, Nat.le_of_ble_eq_true rfl⟩ ⟨Nat.le_of_ble_eq_true rfl, Nat.le_of_ble_eq_true rfl⟩ rfl (Nat.le_of_ble_eq_true rfl) dX1_areParameters_38 ?_
        rintro _ _ ⟨rfl, z_22, rfl, z_22v⟩
        have z_22r := Vl.rng hS z_22v
        refine pw_stk (st' := [.int (iZ z_22)]) rfl ?_
        refine pw_istore (lv' := [(0, .ref (A 20)), (1, .int (iZ x)), (2, .int (iZ (obLen X))), (3, .int (iZ y)), (4, .int (iZ i)), (5, .int (iZ z_22))]) C dX1_areParameters_41 (by decide) rfl ?_
        refine pw_aload_n (i := 0) C dX1_areParameters_43 rfl rfl (Or.inr ⟨_, rfl⟩) ?_
        refine pw_get (j := 0) C cl_X1 fl_X1_9 (by decide) rfl hC rfl dX1_areParameters_44 ?_
        refine pw_iload_n (i := 3) C dX1_areParameters_47 rfl rfl ?_
        refine pw_callV (As := [.int (iZ y)]) (st := []) C (vr_tail hS hy) my_X6_tail ml_X1_116 (hS.rec C) rfl ⟨Nat.le_of_ble_eq_true rfl, Nat.le_of_ble_eq_true rfl⟩ ⟨Nat.le_of_ble_eq_true rfl, Nat.le_of_ble_eq_true rfl⟩ rfl (Nat.le_of_ble_eq_true rfl) dX1_areParameters_48 ?_
        rintro _ _ ⟨rfl, z_23, rfl, z_23v⟩
        have z_23r := Vl.rng hS z_23v
        refine pw_stk (st' := [.int (iZ z_23)]) rfl ?_
        refine pw_istore_n (i := 3) (lv' := [(0, .ref (A 20)), (1, .int (iZ x)), (2, .int (iZ (obLen X))), (3, .int (iZ z_23)), (4, .int (iZ i)), (5, .int (iZ z_22))]) C dX1_areParameters_51 rfl (by decide) rfl ?_
        refine pw_aload_n (i := 0) C dX1_areParameters_52 rfl rfl (Or.inr ⟨_, rfl⟩) ?_
        refine pw_get (j := 0) C cl_X1 fl_X1_9 (by decide) rfl hC rfl dX1_areParameters_53 ?_
        refine pw_iload C dX1_areParameters_56 rfl ?_
        refine pw_callV (As := [.int (iZ z_22)]) (st := []) C (vr_isVariable hS z_22v) my_X6_isVariable ml_X1_105 (hS.rec C) rfl ⟨Nat.le_of_ble_eq_true rfl, Nat.le_of_ble_eq_true rfl⟩ ⟨Nat.le_of_ble_eq_true rfl, Nat.le_of_ble_eq_true rfl⟩ rfl (Nat.le_of_ble_eq_true rfl) dX1_areParameters_58 ?_
        rintro _ _ ⟨rfl, rfl⟩
        refine pw_stk (st' := [.int (iZ (b2i (obV (obCar R0))))]) rfl ?_
        refine pw_if_eqB (tgt := 77) C dX1_areParameters_61 (by decide) (fun h_24 => ?_) (fun h_24 => ?_)
        · refine pw_iconst C dX1_areParameters_77 ?_
          exact pw_zret C hr (by decide +kernel) dX1_areParameters_78 ⟨rfl, by rw [show arePs X = false from by rw [hps, ← hq, psOk_p hpr, h_24]; rfl]; rfl⟩
        · refine pw_aload_n (i := 0) C dX1_areParameters_64 rfl rfl (Or.inr ⟨_, rfl⟩) ?_
          refine pw_get (j := 0) C cl_X1 fl_X1_9 (by decide) rfl hC rfl dX1_areParameters_65 ?_
          refine pw_iload C dX1_areParameters_68 rfl ?_
          refine pw_iload_n (i := 3) C dX1_areParameters_70 rfl rfl ?_
          refine pw_callV (As := [.int (iZ z_22), .int (iZ z_23)]) (st := []) C (vr_isElement hS z_22v z_23v) my_X6_isElement ml_X1_109 (hS.rec C) rfl ⟨Nat.le_of_ble_eq_true rfl, Nat.le_of_ble_eq_true rfl⟩ ⟨Nat.le_of_ble_eq_true rfl, Nat.le_of_ble_eq_true rfl⟩ rfl (Nat.le_of_ble_eq_true rfl) dX1_areParameters_71 ?_
          rintro _ _ ⟨rfl, rfl⟩
          refine pw_stk (st' := [.int (iZ (b2i (obEl (obCar R0) (obCdr R0))))]) rfl ?_
          refine pw_if_eqB (tgt := 79) C dX1_areParameters_74 (by decide) (fun h_25 => ?_) (fun h_25 => ?_)
          · refine pw_iinc (lv' := [(0, .ref (A 20)), (1, .int (iZ x)), (2, .int (iZ (obLen X))), (3, .int (iZ z_23)), (4, .int (iZ (i + 1))), (5, .int (iZ z_22))]) C dX1_areParameters_79 rfl (by decide) rfl ?_
            refine pw_goto (tgt := 27) C dX1_areParameters_82 (by decide) ?_
            refine pw_sub [0, 1, 2, 3, 4] rfl ?_
            exact ih _ (i + 1) (obCdr R0) (by have := obLen_cdr hpr hlr; omega) (obLen_cdr hpr hlr).2 z_23v (by omega) (by have := obLen_cdr hpr hlr; omega) (by rw [← hq, psOk_p hpr, h_24, h_25]; rfl)
          · refine pw_iconst C dX1_areParameters_77 ?_
            exact pw_zret C hr (by decide +kernel) dX1_areParameters_78 ⟨rfl, by rw [show arePs X = false from by rw [hps, ← hq, psOk_p hpr, h_25]; simp]; rfl⟩
  refine pw_aload_n (i := 0) C dX1_areParameters_0 rfl rfl (Or.inr ⟨_, rfl⟩) ?_
  refine pw_get (j := 0) C cl_X1 fl_X1_9 (by decide) rfl hC rfl dX1_areParameters_1 ?_
  refine pw_iload_n (i := 1) C dX1_areParameters_4 rfl rfl ?_
  refine pw_callV (As := [.int (iZ x)]) (st := []) C (vr_lengthOf hS hx) my_X6_lengthOf ml_X1_47 (hS.rec C) rfl ⟨Nat.le_of_ble_eq_true rfl, Nat.le_of_ble_eq_true rfl⟩ ⟨Nat.le_of_ble_eq_true rfl, Nat.le_of_ble_eq_true rfl⟩ rfl (Nat.le_of_ble_eq_true rfl) dX1_areParameters_5 ?_
  rintro _ _ ⟨rfl, rfl⟩
  refine pw_stk (st' := [.int (iZ (obLen X))]) rfl ?_
  refine pw_istore_n (i := 2) (lv' := [(0, .ref (A 20)), (1, .int (iZ x)), (2, .int (iZ (obLen X)))]) C dX1_areParameters_8 rfl (by decide) rfl ?_
  refine pw_iload_n (i := 2) C dX1_areParameters_9 rfl rfl ?_
  refine pw_iconst C dX1_areParameters_10 ?_
  refine pw_icmp_eq (tgt := 20) C (by omega) (by omega) dX1_areParameters_11 (by decide) (fun h_101 => ?_) (fun h_101 => ?_)
  · refine pw_iconst C dX1_areParameters_20 ?_
    exact pw_zret C hr (by decide +kernel) dX1_areParameters_21 ⟨rfl, by rw [show arePs X = false from by unfold arePs; rw [decide_eq_false (by omega)]; rfl]; rfl⟩
  · refine pw_iload_n (i := 2) C dX1_areParameters_14 rfl rfl ?_
    refine pw_bipush C dX1_areParameters_15 (by decide) ?_
    refine pw_icmp_le (tgt := 22) C (by omega) (by omega) dX1_areParameters_17 (by decide) (fun h_102 => ?_) (fun h_102 => ?_)
    · refine pw_iload_n (i := 1) C dX1_areParameters_22 rfl rfl ?_
      refine pw_istore_n (i := 3) (lv' := [(0, .ref (A 20)), (1, .int (iZ x)), (2, .int (iZ (obLen X))), (3, .int (iZ x))]) C dX1_areParameters_23 rfl (by decide) rfl ?_
      refine pw_iconst C dX1_areParameters_24 ?_
      refine pw_istore (lv' := [(0, .ref (A 20)), (1, .int (iZ x)), (2, .int (iZ (obLen X))), (3, .int (iZ x)), (4, .int (iZ 0))]) C dX1_areParameters_25 (by decide) rfl ?_
      have hps : arePs X = psOk X := by unfold arePs; rw [decide_eq_true (by omega)]; rfl
      exact loop (obLen X).toNat hps _ 0 X rfl (by omega) hx (by omega) (by omega) rfl
    · refine pw_iconst C dX1_areParameters_20 ?_
      exact pw_zret C hr (by decide +kernel) dX1_areParameters_21 ⟨rfl, by rw [show arePs X = false from by unfold arePs; rw [decide_eq_false (by omega)]; rfl]; rfl⟩

set_option maxRecDepth 100000 in
set_option maxHeartbeats 4000000 in
/-- isDefinition -/
theorem m_X1_isDefinition (g : pw_P) (l : Launch) {w : pw_W} {A : Nat → Nat} {cap : Nat} {t : Int → Ob} {n rs kp : Int} (hS : SB g w (A 2) cap t n) (hC : w 20 = (A 20, some (cmE A rs kp))) {D : Nat → Nat} {ds : List Df} {T : List Dn} (hF : FnI g w A D ds) (hD : DsT t n ds T) (hM : TmJ g w A) {z p0 x : Int} {N P X : Ob} (hz : Vl t n z N) (hp : Vl t n p0 P) (hx : Vl t n x X) : pw_M g l yX1_isDefinition cX1_isDefinition 4 (some .boolean) { frames := 4, cells := 0, slots := 0, locals := 94 } [.ref (A 20), .int (iZ z), .int (iZ p0), .int (iZ x)] w (fun r w' => r = some (.int (iZ (b2i (isDef T N P X)))) ∧ TmJ g w' A ∧ ∀ k, (k < 21 ∨ 22 < k) → w' k = w k) := by
  refine pw_M.of (by decide) (Nat.le_of_ble_eq_true rfl) rfl ?_
  intro p e s m args below meth c C hr hn
  have hn0 := hS.n
  have hzr := Vl.rng hS hz
  have hpr := Vl.rng hS hp
  have hxr := Vl.rng hS hx
  refine pw_aload_n (i := 0) C dX1_isDefinition_0 rfl rfl (Or.inr ⟨_, rfl⟩) ?_
  refine pw_iload_n (i := 1) C dX1_isDefinition_1 rfl rfl ?_
  refine pw_callV (As := [.int (iZ z)]) (st := []) C (m_X1_isFunctionName g l hS hC hz) my_X1_isFunctionName ml_X1_119 (pw_rec.of C hC cl_X1.1) rfl ⟨Nat.le_of_ble_eq_true rfl, Nat.le_of_ble_eq_true rfl⟩ ⟨Nat.le_of_ble_eq_true rfl, Nat.le_of_ble_eq_true rfl⟩ rfl (Nat.le_of_ble_eq_true rfl) dX1_isDefinition_2 ?_
  rintro _ _ ⟨rfl, rfl⟩
  refine pw_stk (st' := [.int (iZ (b2i (isFN N)))]) rfl ?_
  refine pw_if_eqB (tgt := 41) C dX1_isDefinition_5 (by decide) (fun h_1 => ?_) (fun h_1 => ?_)
  · refine pw_iconst C dX1_isDefinition_41 ?_
    exact pw_zret C hr (by decide +kernel) dX1_isDefinition_42 ⟨by rw [show isDef T N P X = false from by unfold isDef; rw [h_1]; rfl]; rfl, hM, fun k hk => rfl⟩
  · have hk16 : 16 < kIx N := by unfold isFN at h_1; simp only [Bool.and_eq_true, decide_eq_true_eq] at h_1; exact h_1.2
    refine pw_aload_n (i := 0) C dX1_isDefinition_8 rfl rfl (Or.inr ⟨_, rfl⟩) ?_
    refine pw_iload_n (i := 2) C dX1_isDefinition_9 rfl rfl ?_
    refine pw_callV (As := [.int (iZ p0)]) (st := []) C (m_X1_areParameters g l hS hC hp) my_X1_areParameters ml_X1_161 (pw_rec.of C hC cl_X1.1) rfl ⟨Nat.le_of_ble_eq_true rfl, Nat.le_of_ble_eq_true rfl⟩ ⟨Nat.le_of_ble_eq_true rfl, Nat.le_of_ble_eq_true rfl⟩ rfl (Nat.le_of_ble_eq_true rfl) dX1_isDefinition_10 ?_
    rintro _ _ ⟨rfl, rfl⟩
    refine pw_stk (st' := [.int (iZ (b2i (arePs P)))]) rfl ?_
    refine pw_if_eqB (tgt := 41) C dX1_isDefinition_13 (by decide) (fun h_2 => ?_) (fun h_2 => ?_)
    · refine pw_iconst C dX1_isDefinition_41 ?_
      exact pw_zret C hr (by decide +kernel) dX1_isDefinition_42 ⟨by rw [show isDef T N P X = false from by unfold isDef; rw [h_1, h_2]; rfl]; rfl, hM, fun k hk => rfl⟩
    · refine pw_aload_n (i := 0) C dX1_isDefinition_16 rfl rfl (Or.inr ⟨_, rfl⟩) ?_
      refine pw_get (j := 3) C cl_X1 fl_X1_28 (by decide) rfl hC rfl dX1_isDefinition_17 ?_
      refine pw_iload_n (i := 3) C dX1_isDefinition_20 rfl rfl ?_
      refine pw_iload_n (i := 2) C dX1_isDefinition_21 rfl rfl ?_
      refine pw_iload_n (i := 1) C dX1_isDefinition_22 rfl rfl ?_
      refine pw_aload_n (i := 0) C dX1_isDefinition_23 rfl rfl (Or.inr ⟨_, rfl⟩) ?_
      refine pw_get (j := 0) C cl_X1 fl_X1_9 (by decide) rfl hC rfl dX1_isDefinition_24 ?_
      refine pw_iload_n (i := 2) C dX1_isDefinition_27 rfl rfl ?_
      refine pw_callV (As := [.int (iZ p0)]) (st := [.int (iZ z), .int (iZ p0), .int (iZ x), .ref (A 21)]) C (vr_lengthOf hS hp) my_X6_lengthOf ml_X1_47 (hS.rec C) rfl ⟨Nat.le_of_ble_eq_true rfl, Nat.le_of_ble_eq_true rfl⟩ ⟨Nat.le_of_ble_eq_true rfl, Nat.le_of_ble_eq_true rfl⟩ rfl (Nat.le_of_ble_eq_true rfl) dX1_isDefinition_28 ?_
      rintro _ _ ⟨rfl, rfl⟩
      refine pw_stk (st' := [.int (iZ (obLen P)), .int (iZ z), .int (iZ p0), .int (iZ x), .ref (A 21)]) rfl ?_
      refine pw_callV (As := [.int (iZ x), .int (iZ p0), .int (iZ z), .int (iZ (obLen P))]) (st := []) C (m_X8_isTerm g l (T1 := (N, P, oNil) :: T) hS hM hF hD hx hp (Or.inr ⟨N, P, hz, hk16, rfl, rfl⟩) ⟨by omega, by have := obLen_le_ht P; have := Vl.ht hS hp; have := obLen_ge P; omega⟩) my_X8_isTerm ml_X1_89 (hM.rec C) rfl ⟨Nat.le_of_ble_eq_true rfl, Nat.le_of_ble_eq_true rfl⟩ ⟨Nat.le_of_ble_eq_true rfl, Nat.le_of_ble_eq_true rfl⟩ rfl (Nat.le_of_ble_eq_true rfl) dX1_isDefinition_31 ?_
      rintro _ w_3 ⟨rfl, M_4, o_5⟩
      have S_6 := hS.same (w' := w_3) (fun k h1 h2 => o_5 k (by omega))
      have F_7 := hF.same (w' := w_3) (fun k h => o_5 k (by omega))
      refine pw_stk (st' := [.int (iZ (b2i (isTm ((N, P, oNil) :: T) (fun q => obEl q P) X)))]) rfl ?_
      refine pw_if_eqB (tgt := 41) C dX1_isDefinition_34 (by decide) (fun h_8 => ?_) (fun h_8 => ?_)
      · refine pw_iconst C dX1_isDefinition_41 ?_
        exact pw_zret C hr (by decide +kernel) dX1_isDefinition_42 ⟨by rw [show isDef T N P X = false from by unfold isDef; rw [h_1, h_2, h_8]; rfl]; rfl, M_4, fun k hk => (o_5 k (by omega))⟩
      · refine pw_iconst C dX1_isDefinition_37 ?_
        refine pw_goto (tgt := 42) C dX1_isDefinition_38 (by decide) ?_
        exact pw_zret C hr (by decide +kernel) dX1_isDefinition_42 ⟨by rw [show isDef T N P X = true from by unfold isDef; rw [h_1, h_2, h_8]; rfl]; rfl, M_4, fun k hk => (o_5 k (by omega))⟩

set_option maxRecDepth 100000 in
set_option maxHeartbeats 4000000 in
/-- boundVariables -/
theorem m_X1_boundVariables (g : pw_P) (l : Launch) {w : pw_W} {A : Nat → Nat} {cap : Nat} {t : Int → Ob} {n rs kp : Int} (hS : SB g w (A 2) cap t n) (hC : w 20 = (A 20, some (cmE A rs kp))) {x : Int} {X : Ob} {wd : Int} (hx : Vl t n x X) (hwd : obLen X ≤ wd ∧ 0 ≤ wd) (hcap : n + wd ≤ cap) : pw_M g l yX1_boundVariables cX1_boundVariables 8 (some .int) { frames := 3, cells := 0, slots := 0, locals := 73 } [.ref (A 20), .int (iZ x)] w (fun r w' => ∃ (z : Int) (t' : Int → Ob) (n' : Int), r = some (.int (iZ z)) ∧ SB g w' (A 2) cap t' n' ∧ Ext t n t' n' ∧ n' ≤ n + wd ∧ (match bVs X with | none => z = -1 | some V => Vl t' n' z V) ∧ ∀ k, (k < 2 ∨ 7 < k) → w' k = w k) := by
  refine pw_M.of (by decide) (Nat.le_of_ble_eq_true rfl) rfl ?_
  intro p e s m args below meth c C hr hn
  have hn0 := hS.n
  have hxl := obLen_ge X
  have hxh := Vl.ht hS hx
  have hxo := obLen_le_ht X
  have loop : ∀ (kk : Nat) (hbx : bVs X = bvF X oNil) (w1 : pw_W) (t1 : Int → Ob) (n1 v y i : Int) (R0 V : Ob), (obLen R0).toNat = kk → 0 ≤ obLen R0 → SB g w1 (A 2) cap t1 n1 → Ext t n t1 n1 → Vl t1 n1 y R0 → Vl t1 n1 v V → 0 ≤ i → i + obLen R0 = obLen X → n1 + obLen R0 ≤ n + wd → bvF R0 V = bvF X oNil → (∀ k, (k < 2 ∨ 7 < k) → w1 k = w k) → pw_G g p l e { frames := 3, cells := 0, slots := 0, locals := 73 } s m args below meth c 8 (pw_Q g below (fun r w' => ∃ (z : Int) (t' : Int → Ob) (n' : Int), r = some (.int (iZ z)) ∧ SB g w' (A 2) cap t' n' ∧ Ext t n t' n' ∧ n' ≤ n + wd ∧ (match bVs X with | none => z = -1 | some V => Vl t' n' z V) ∧ ∀ k, (k < 2 ∨ 7 < k) → w' k = w k) args s { frames := 3, cells := 0, slots := 0, locals := 73 }) 0 0 17 [(0, .ref (A 20)), (1, .int (iZ x)), (2, .int (iZ (obLen X))), (3, .int (iZ v)), (4, .int (iZ y)), (5, .int (iZ i))] [] w1 := by
    intro kk
    induction kk with
    | zero =>
      intro hbx w1 t1 n1 v y i R0 V hk hlr hS1 hext hy hv hi0 hi hcp hq hf1
      have hnp : obP R0 = false := by
        cases hb : obP R0 with
        | false => rfl
        | true => have := obLen_cdr hb hlr; omega
      refine pw_iload C dX1_boundVariables_17 rfl ?_
      refine pw_iload_n (i := 2) C dX1_boundVariables_19 rfl rfl ?_
      refine pw_icmp_ge (tgt := 113) C (by omega) (by omega) dX1_boundVariables_20 (by decide) (fun h_11 => ?_) (fun h_11 => ?_)
      · refine pw_iload_n (i := 2) C dX1_boundVariables_113 rfl rfl ?_
        refine pw_iconst C dX1_boundVariables_114 ?_
        refine pw_icmp_ne (tgt := 122) C (by omega) (by omega) dX1_boundVariables_115 (by decide) (fun h_12 => ?_) (fun h_12 => ?_)
        · refine pw_iload_n (i := 3) C dX1_boundVariables_122 rfl rfl ?_
          exact pw_iret C hr dX1_boundVariables_123 ⟨v, t1, n1, rfl, hS1, hext, by omega, by rw [show bVs X = some V from (hbx.trans (by rw [← hq, (obLen_np hnp hlr).1]; rfl))]; exact hv, hf1⟩
        · exfalso; omega
      · exfalso; omega
    | succ kk ih =>
      intro hbx w1 t1 n1 v y i R0 V hk hlr hS1 hext hy hv hi0 hi hcp hq hf1
      have hpr := obLen_pos (x := R0) (by omega)
      have hn1 := hS1.n
      have hC1 := (hf1 20 (by omega)).trans hC
      have ih := ih hbx
      refine pw_iload C dX1_boundVariables_17 rfl ?_
      refine pw_iload_n (i := 2) C dX1_boundVariables_19 rfl rfl ?_
      refine pw_icmp_ge (tgt := 113) C (by omega) (by omega) dX1_boundVariables_20 (by decide) (fun h_21 => ?_) (fun h_21 => ?_)
      · exfalso; omega
      · refine pw_aload_n (i := 0) C dX1_boundVariables_23 rfl rfl (Or.inr ⟨_, rfl⟩) ?_
        refine pw_get (j := 0) C cl_X1 fl_X1_9 (by decide) rfl hC1 rfl dX1_boundVariables_24 ?_
        refine pw_iload C dX1_boundVariables_27 rfl ?_
        refine pw_callV (As := [.int (iZ y)]) (st := []) C (vr_head hS1 hy) my_X6_head ml_X1_60 (hS1.rec C) rfl ⟨Nat.le_of_ble_eq_true rfl, Nat.le_of_ble_eq_true rfl⟩ ⟨Nat.le_of_ble_eq_true rfl, Nat.le_of_ble_eq_true rfl⟩ rfl (Nat.le_of_ble_eq_true rfl) dX1_boundVariables_29 ?_
        rintro _ _ ⟨rfl, z_22, rfl, z_22v⟩
        have z_22r := Vl.rng hS1 z_22v
        refine pw_stk (st' := [.int (iZ z_22)]) rfl ?_
        refine pw_istore (lv' := [(0, .ref (A 20)), (1, .int (iZ x)), (2, .int (iZ (obLen X))), (3, .int (iZ v)), (4, .int (iZ y)), (5, .int (iZ i)), (6, .int (iZ z_22))]) C dX1_boundVariables_32 (by decide) rfl ?_
        refine pw_aload_n (i := 0) C dX1_boundVariables_34 rfl rfl (Or.inr ⟨_, rfl⟩) ?_
        refine pw_get (j := 0) C cl_X1 fl_X1_9 (by decide) rfl hC1 rfl dX1_boundVariables_35 ?_
        refine pw_iload C dX1_boundVariables_38 rfl ?_
        refine pw_callV (As := [.int (iZ z_22)]) (st := []) C (vr_head hS1 z_22v) my_X6_head ml_X1_60 (hS1.rec C) rfl ⟨Nat.le_of_ble_eq_true rfl, Nat.le_of_ble_eq_true rfl⟩ ⟨Nat.le_of_ble_eq_true rfl, Nat.le_of_ble_eq_true rfl⟩ rfl (Nat.le_of_ble_eq_true rfl) dX1_boundVariables_40 ?_
        rintro _ _ ⟨rfl, z_23, rfl, z_23v⟩
        have z_23r := Vl.rng hS1 z_23v
        refine pw_stk (st' := [.int (iZ z_23)]) rfl ?_
        refine pw_istore (lv' := [(0, .ref (A 20)), (1, .int (iZ x)), (2, .int (iZ (obLen X))), (3, .int (iZ v)), (4, .int (iZ y)), (5, .int (iZ i)), (6, .int (iZ z_22)), (7, .int (iZ z_23))]) C dX1_boundVariables_43 (by decide) rfl ?_
        refine pw_aload_n (i := 0) C dX1_boundVariables_45 rfl rfl (Or.inr ⟨_, rfl⟩) ?_
        refine pw_get (j := 0) C cl_X1 fl_X1_9 (by decide) rfl hC1 rfl dX1_boundVariables_46 ?_
        refine pw_iload C dX1_boundVariables_49 rfl ?_
        refine pw_callV (As := [.int (iZ z_22)]) (st := []) C (vr_lengthOf hS1 z_22v) my_X6_lengthOf ml_X1_47 (hS1.rec C) rfl ⟨Nat.le_of_ble_eq_true rfl, Nat.le_of_ble_eq_true rfl⟩ ⟨Nat.le_of_ble_eq_true rfl, Nat.le_of_ble_eq_true rfl⟩ rfl (Nat.le_of_ble_eq_true rfl) dX1_boundVariables_51 ?_
        rintro _ _ ⟨rfl, rfl⟩
        refine pw_stk (st' := [.int (iZ (obLen (obCar R0)))]) rfl ?_
        have hbl := obLen_ge (obCar R0); have hbh := obLen_le_ht (obCar R0); have hbt := Vl.ht hS1 z_22v
        refine pw_iconst C dX1_boundVariables_54 ?_
        refine pw_icmp_ne (tgt := 83) C (by omega) (by omega) dX1_boundVariables_55 (by decide) (fun h_24 => ?_) (fun h_24 => ?_)
        · refine pw_iconst C dX1_boundVariables_83 ?_
          exact pw_iret C hr dX1_boundVariables_84 ⟨(-1), t1, n1, rfl, hS1, hext, by omega, by rw [show bVs X = none from (hbx.trans (by rw [← hq, bvF_p hpr, if_neg (fun q => absurd q.1 (by omega))]))], hf1⟩
        · refine pw_aload_n (i := 0) C dX1_boundVariables_58 rfl rfl (Or.inr ⟨_, rfl⟩) ?_
          refine pw_get (j := 0) C cl_X1 fl_X1_9 (by decide) rfl hC1 rfl dX1_boundVariables_59 ?_
          refine pw_iload C dX1_boundVariables_62 rfl ?_
          refine pw_callV (As := [.int (iZ z_23)]) (st := []) C (vr_isVariable hS1 z_23v) my_X6_isVariable ml_X1_105 (hS1.rec C) rfl ⟨Nat.le_of_ble_eq_true rfl, Nat.le_of_ble_eq_true rfl⟩ ⟨Nat.le_of_ble_eq_true rfl, Nat.le_of_ble_eq_true rfl⟩ rfl (Nat.le_of_ble_eq_true rfl) dX1_boundVariables_64 ?_
          rintro _ _ ⟨rfl, rfl⟩
          refine pw_stk (st' := [.int (iZ (b2i (obV (obCar (obCar R0)))))]) rfl ?_
          refine pw_if_eqB (tgt := 83) C dX1_boundVariables_67 (by decide) (fun h_25 => ?_) (fun h_25 => ?_)
          · refine pw_iconst C dX1_boundVariables_83 ?_
            exact pw_iret C hr dX1_boundVariables_84 ⟨(-1), t1, n1, rfl, hS1, hext, by omega, by rw [show bVs X = none from (hbx.trans (by rw [← hq, bvF_p hpr, if_neg (fun q => by rw [h_25] at q; cases q.2.1)]))], hf1⟩
          · refine pw_aload_n (i := 0) C dX1_boundVariables_70 rfl rfl (Or.inr ⟨_, rfl⟩) ?_
            refine pw_get (j := 0) C cl_X1 fl_X1_9 (by decide) rfl hC1 rfl dX1_boundVariables_71 ?_
            refine pw_iload C dX1_boundVariables_74 rfl ?_
            refine pw_iload_n (i := 3) C dX1_boundVariables_76 rfl rfl ?_
            refine pw_callV (As := [.int (iZ z_23), .int (iZ v)]) (st := []) C (vr_isElement hS1 z_23v hv) my_X6_isElement ml_X1_109 (hS1.rec C) rfl ⟨Nat.le_of_ble_eq_true rfl, Nat.le_of_ble_eq_true rfl⟩ ⟨Nat.le_of_ble_eq_true rfl, Nat.le_of_ble_eq_true rfl⟩ rfl (Nat.le_of_ble_eq_true rfl) dX1_boundVariables_77 ?_
            rintro _ _ ⟨rfl, rfl⟩
            refine pw_stk (st' := [.int (iZ (b2i (obEl (obCar (obCar R0)) V)))]) rfl ?_
            refine pw_if_eqB (tgt := 85) C dX1_boundVariables_80 (by decide) (fun h_26 => ?_) (fun h_26 => ?_)
            · refine pw_aload_n (i := 0) C dX1_boundVariables_85 rfl rfl (Or.inr ⟨_, rfl⟩) ?_
              refine pw_get (j := 0) C cl_X1 fl_X1_9 (by decide) rfl hC1 rfl dX1_boundVariables_86 ?_
              refine pw_iload C dX1_boundVariables_89 rfl ?_
              refine pw_iload_n (i := 3) C dX1_boundVariables_91 rfl rfl ?_
              refine pw_callV (As := [.int (iZ z_23), .int (iZ v)]) (st := []) C (vr_pair hS1 (by omega) z_23v hv) my_X6_pair ml_X1_113 (hS1.rec C) rfl ⟨Nat.le_of_ble_eq_true rfl, Nat.le_of_ble_eq_true rfl⟩ ⟨Nat.le_of_ble_eq_true rfl, Nat.le_of_ble_eq_true rfl⟩ rfl (Nat.le_of_ble_eq_true rfl) dX1_boundVariables_92 ?_
              rintro _ w_34 ⟨z_27, t_28, n_29, rfl, S_30, x_31, hn_32, z_27v, o_33⟩
              have x_311 := x_31.1
              have v_35 := Vl.ext hy x_31
              have v_36 := Vl.ext hv x_31
              have v_37 := Vl.ext z_22v x_31
              have v_38 := Vl.ext z_23v x_31
              have z_27r := Vl.rng S_30 z_27v
              refine pw_stk (st' := [.int (iZ z_27)]) rfl ?_
              refine pw_istore_n (i := 3) (lv' := [(0, .ref (A 20)), (1, .int (iZ x)), (2, .int (iZ (obLen X))), (3, .int (iZ z_27)), (4, .int (iZ y)), (5, .int (iZ i)), (6, .int (iZ z_22)), (7, .int (iZ z_23))]) C dX1_boundVariables_95 rfl (by decide) rfl ?_
              refine pw_aload_n (i := 0) C dX1_boundVariables_96 rfl rfl (Or.inr ⟨_, rfl⟩) ?_
              have c_39 := (o_33 20 (by omega)).trans hC1
              refine pw_get (j := 0) C cl_X1 fl_X1_9 (by decide) rfl c_39 rfl dX1_boundVariables_97 ?_
              refine pw_iload C dX1_boundVariables_100 rfl ?_
              refine pw_callV (As := [.int (iZ y)]) (st := []) C (vr_tail S_30 v_35) my_X6_tail ml_X1_116 (S_30.rec C) rfl ⟨Nat.le_of_ble_eq_true rfl, Nat.le_of_ble_eq_true rfl⟩ ⟨Nat.le_of_ble_eq_true rfl, Nat.le_of_ble_eq_true rfl⟩ rfl (Nat.le_of_ble_eq_true rfl) dX1_boundVariables_102 ?_
              rintro _ _ ⟨rfl, z_40, rfl, z_40v⟩
              have z_40r := Vl.rng S_30 z_40v
              refine pw_stk (st' := [.int (iZ z_40)]) rfl ?_
              refine pw_istore (lv' := [(0, .ref (A 20)), (1, .int (iZ x)), (2, .int (iZ (obLen X))), (3, .int (iZ z_27)), (4, .int (iZ z_40)), (5, .int (iZ i)), (6, .int (iZ z_22)), (7, .int (iZ z_23))]) C dX1_boundVariables_105 (by decide) rfl ?_
              refine pw_iinc (lv' := [(0, .ref (A 20)), (1, .int (iZ x)), (2, .int (iZ (obLen X))), (3, .int (iZ z_27)), (4, .int (iZ z_40)), (5, .int (iZ (i + 1))), (6, .int (iZ z_22)), (7, .int (iZ z_23))]) C dX1_boundVariables_107 rfl (by decide) rfl ?_
              refine pw_goto (tgt := 17) C dX1_boundVariables_110 (by decide) ?_
              refine pw_sub [0, 1, 2, 3, 4, 5] rfl ?_
              exact ih w_34 t_28 n_29 _ _ (i + 1) (obCdr R0) _ (by have := obLen_cdr hpr hlr; omega) (obLen_cdr hpr hlr).2 S_30 (hext.tr x_31) z_40v z_27v (by omega) (by have := obLen_cdr hpr hlr; omega) (by have := obLen_cdr hpr hlr; omega) (by rw [← hq, bvF_p hpr, if_pos ⟨by omega, h_25, h_26⟩]) (fun k hk => ((o_33 k (by omega))).trans (hf1 k hk))
            · refine pw_iconst C dX1_boundVariables_83 ?_
              exact pw_iret C hr dX1_boundVariables_84 ⟨(-1), t1, n1, rfl, hS1, hext, by omega, by rw [show bVs X = none from (hbx.trans (by rw [← hq, bvF_p hpr, if_neg (fun q => by rw [h_26] at q; cases q.2.2)]))], hf1⟩
  refine pw_aload_n (i := 0) C dX1_boundVariables_0 rfl rfl (Or.inr ⟨_, rfl⟩) ?_
  refine pw_get (j := 0) C cl_X1 fl_X1_9 (by decide) rfl hC rfl dX1_boundVariables_1 ?_
  refine pw_iload_n (i := 1) C dX1_boundVariables_4 rfl rfl ?_
  refine pw_callV (As := [.int (iZ x)]) (st := []) C (vr_lengthOf hS hx) my_X6_lengthOf ml_X1_47 (hS.rec C) rfl ⟨Nat.le_of_ble_eq_true rfl, Nat.le_of_ble_eq_true rfl⟩ ⟨Nat.le_of_ble_eq_true rfl, Nat.le_of_ble_eq_true rfl⟩ rfl (Nat.le_of_ble_eq_true rfl) dX1_boundVariables_5 ?_
  rintro _ _ ⟨rfl, rfl⟩
  refine pw_stk (st' := [.int (iZ (obLen X))]) rfl ?_
  refine pw_istore_n (i := 2) (lv' := [(0, .ref (A 20)), (1, .int (iZ x)), (2, .int (iZ (obLen X)))]) C dX1_boundVariables_8 rfl (by decide) rfl ?_
  refine pw_iconst C dX1_boundVariables_9 ?_
  refine pw_istore_n (i := 3) (lv' := [(0, .ref (A 20)), (1, .int (iZ x)), (2, .int (iZ (obLen X))), (3, .int (iZ 0))]) C dX1_boundVariables_10 rfl (by decide) rfl ?_
  refine pw_iload_n (i := 1) C dX1_boundVariables_11 rfl rfl ?_
  refine pw_istore (lv' := [(0, .ref (A 20)), (1, .int (iZ x)), (2, .int (iZ (obLen X))), (3, .int (iZ 0)), (4, .int (iZ x))]) C dX1_boundVariables_12 (by decide) rfl ?_
  refine pw_iconst C dX1_boundVariables_14 ?_
  refine pw_istore (lv' := [(0, .ref (A 20)), (1, .int (iZ x)), (2, .int (iZ (obLen X))), (3, .int (iZ 0)), (4, .int (iZ x)), (5, .int (iZ 0))]) C dX1_boundVariables_15 (by decide) rfl ?_
  by_cases hneg : obLen X = -1
  · refine pw_iload C dX1_boundVariables_17 rfl ?_
    refine pw_iload_n (i := 2) C dX1_boundVariables_19 rfl rfl ?_
    refine pw_icmp_ge (tgt := 113) C (by omega) (by omega) dX1_boundVariables_20 (by decide) (fun h_301 => ?_) (fun h_301 => ?_)
    · refine pw_iload_n (i := 2) C dX1_boundVariables_113 rfl rfl ?_
      refine pw_iconst C dX1_boundVariables_114 ?_
      refine pw_icmp_ne (tgt := 122) C (by omega) (by omega) dX1_boundVariables_115 (by decide) (fun h_302 => ?_) (fun h_302 => ?_)
      · exfalso; omega
      · refine pw_iconst C dX1_boundVariables_118 ?_
        refine pw_goto (tgt := 123) C dX1_boundVariables_119 (by decide) ?_
        exact pw_iret C hr dX1_boundVariables_123 ⟨-1, t, n, rfl, hS, Ext.rf, by omega, by rw [show bVs X = none from if_pos (by omega)], fun _ _ => rfl⟩
    · exfalso; omega
  exact loop (obLen X).toNat (if_neg hneg) w t n 0 _ 0 X oNil rfl (by omega) hS Ext.rf hx (Vl.nil hS) (by omega) (by omega) (by omega) rfl (fun _ _ => rfl)

set_option maxRecDepth 100000 in
set_option maxHeartbeats 4000000 in
/-- reversed -/
theorem m_X1_reversed (g : pw_P) (l : Launch) {w : pw_W} {A : Nat → Nat} {cap : Nat} {t : Int → Ob} {n rs kp : Int} (hS : SB g w (A 2) cap t n) (hC : w 20 = (A 20, some (cmE A rs kp))) {x : Int} {L : List Ob} (hx : Vl t n x (mkL L)) (hcap : n + L.length ≤ cap) : pw_M g l yX1_reversed cX1_reversed 6 (some .int) { frames := 3, cells := 0, slots := 0, locals := 73 } [.ref (A 20), .int (iZ x), .int (iZ ((L.length : Nat) : Int))] w (fun r w' => ∃ (z : Int) (t' : Int → Ob) (n' : Int), r = some (.int (iZ z)) ∧ SB g w' (A 2) cap t' n' ∧ Ext t n t' n' ∧ n' ≤ n + L.length ∧ Vl t' n' z (mkL L.reverse) ∧ ∀ k, (k < 2 ∨ 7 < k) → w' k = w k) := by
  refine pw_M.of (by decide) (Nat.le_of_ble_eq_true rfl) rfl ?_
  intro p e s m args below meth c C hr hn
  have hn0 := hS.n
  have loop : ∀ (R0 : List Ob) (w1 : pw_W) (t1 : Int → Ob) (n1 v y i : Int) (acc : List Ob), SB g w1 (A 2) cap t1 n1 → Ext t n t1 n1 → Vl t1 n1 y (mkL R0) → Vl t1 n1 v (mkL acc) → i + R0.length = L.length → 0 ≤ i → n1 + R0.length ≤ n + L.length → R0.reverse ++ acc = L.reverse → (∀ k, (k < 2 ∨ 7 < k) → w1 k = w k) → pw_G g p l e { frames := 3, cells := 0, slots := 0, locals := 73 } s m args below meth c 6 (pw_Q g below (fun r w' => ∃ (z : Int) (t' : Int → Ob) (n' : Int), r = some (.int (iZ z)) ∧ SB g w' (A 2) cap t' n' ∧ Ext t n t' n' ∧ n' ≤ n + L.length ∧ Vl t' n' z (mkL L.reverse) ∧ ∀ k, (k < 2 ∨ 7 < k) → w' k = w k) args s { frames := 3, cells := 0, slots := 0, locals := 73 }) 0 0 8 [(0, .ref (A 20)), (1, .int (iZ x)), (2, .int (iZ ((L.length : Nat) : Int))), (3, .int (iZ v)), (4, .int (iZ y)), (5, .int (iZ i))] [] w1 := by
    intro R0
    induction R0 with
    | nil =>
      intro w1 t1 n1 v y i acc hS1 hext hy hv hi hi0 hcp hq hf1
      have hn1 := hS1.n
      have hvr := Vl.rng hS1 hv
      rw [List.reverse_nil, List.nil_append] at hq
      refine pw_iload C dX1_reversed_8 rfl ?_
      refine pw_iload_n (i := 2) C dX1_reversed_10 rfl rfl ?_
      refine pw_icmp_ge (tgt := 49) C (by omega) (by omega) dX1_reversed_11 (by decide) (fun h_11 => ?_) (fun h_11 => ?_)
      · refine pw_iload_n (i := 3) C dX1_reversed_49 rfl rfl ?_
        exact pw_iret C hr dX1_reversed_50 ⟨v, t1, n1, rfl, hS1, hext, by omega, by rw [← hq]; exact hv, hf1⟩
      · exfalso; simp only [List.length_nil] at hi; omega
    | cons q0 R0 ih =>
      intro w1 t1 n1 v y i acc hS1 hext hy hv hi hi0 hcp hq hf1
      have hn1 := hS1.n
      have hC1 := (hf1 20 (by omega)).trans hC
      refine pw_iload C dX1_reversed_8 rfl ?_
      refine pw_iload_n (i := 2) C dX1_reversed_10 rfl rfl ?_
      refine pw_icmp_ge (tgt := 49) C (by omega) (by omega) dX1_reversed_11 (by decide) (fun h_21 => ?_) (fun h_21 => ?_)
      · exfalso; simp only [List.length_cons] at hi; omega
      · refine pw_aload_n (i := 0) C dX1_reversed_14 rfl rfl (Or.inr ⟨_, rfl⟩) ?_
        refine pw_get (j := 0) C cl_X1 fl_X1_9 (by decide) rfl hC1 rfl dX1_reversed_15 ?_
        refine pw_aload_n (i := 0) C dX1_reversed_18 rfl rfl (Or.inr ⟨_, rfl⟩) ?_
        refine pw_get (j := 0) C cl_X1 fl_X1_9 (by decide) rfl hC1 rfl dX1_reversed_19 ?_
        refine pw_iload C dX1_reversed_22 rfl ?_
        refine pw_callV (As := [.int (iZ y)]) (st := [.ref (A 2)]) C (vr_head hS1 hy) my_X6_head ml_X1_60 (hS1.rec C) rfl ⟨Nat.le_of_ble_eq_true rfl, Nat.le_of_ble_eq_true rfl⟩ ⟨Nat.le_of_ble_eq_true rfl, Nat.le_of_ble_eq_true rfl⟩ rfl (Nat.le_of_ble_eq_true rfl) dX1_reversed_24 ?_
        rintro _ _ ⟨rfl, z_22, rfl, z_22v⟩
        have z_22r := Vl.rng hS1 z_22v
        refine pw_stk (st' := [.int (iZ z_22), .ref (A 2)]) rfl ?_
        refine pw_iload_n (i := 3) C dX1_reversed_27 rfl rfl ?_
        refine pw_callV (As := [.int (iZ z_22), .int (iZ v)]) (st := []) C (vr_pair hS1 (by simp only [List.length_cons] at hcp; omega) z_22v hv) my_X6_pair ml_X1_113 (hS1.rec C) rfl ⟨Nat.le_of_ble_eq_true rfl, Nat.le_of_ble_eq_true rfl⟩ ⟨Nat.le_of_ble_eq_true rfl, Nat.le_of_ble_eq_true rfl⟩ rfl (Nat.le_of_ble_eq_true rfl) dX1_reversed_28 ?_
        rintro _ w_30 ⟨z_23, t_24, n_25, rfl, S_26, x_27, hn_28, z_23v, o_29⟩
        have x_271 := x_27.1
        have v_31 := Vl.ext hy x_27
        have v_32 := Vl.ext hv x_27
        have v_33 := Vl.ext z_22v x_27
        have z_23r := Vl.rng S_26 z_23v
        refine pw_stk (st' := [.int (iZ z_23)]) rfl ?_
        refine pw_istore_n (i := 3) (lv' := [(0, .ref (A 20)), (1, .int (iZ x)), (2, .int (iZ ((L.length : Nat) : Int))), (3, .int (iZ z_23)), (4, .int (iZ y)), (5, .int (iZ i))]) C dX1_reversed_31 rfl (by decide) rfl ?_
        refine pw_aload_n (i := 0) C dX1_reversed_32 rfl rfl (Or.inr ⟨_, rfl⟩) ?_
        have c_34 := (o_29 20 (by omega)).trans hC1
        refine pw_get (j := 0) C cl_X1 fl_X1_9 (by decide) rfl c_34 rfl dX1_reversed_33 ?_
        refine pw_iload C dX1_reversed_36 rfl ?_
        refine pw_callV (As := [.int (iZ y)]) (st := []) C (vr_tail S_26 v_31) my_X6_tail ml_X1_116 (S_26.rec C) rfl ⟨Nat.le_of_ble_eq_true rfl, Nat.le_of_ble_eq_true rfl⟩ ⟨Nat.le_of_ble_eq_true rfl, Nat.le_of_ble_eq_true rfl⟩ rfl (Nat.le_of_ble_eq_true rfl) dX1_reversed_38 ?_
        rintro _ _ ⟨rfl, z_35, rfl, z_35v⟩
        have z_35r := Vl.rng S_26 z_35v
        refine pw_stk (st' := [.int (iZ z_35)]) rfl ?_
        refine pw_istore (lv' := [(0, .ref (A 20)), (1, .int (iZ x)), (2, .int (iZ ((L.length : Nat) : Int))), (3, .int (iZ z_23)), (4, .int (iZ z_35)), (5, .int (iZ i))]) C dX1_reversed_41 (by decide) rfl ?_
        refine pw_iinc (lv' := [(0, .ref (A 20)), (1, .int (iZ x)), (2, .int (iZ ((L.length : Nat) : Int))), (3, .int (iZ z_23)), (4, .int (iZ z_35)), (5, .int (iZ (i + 1)))]) C dX1_reversed_43 rfl (by decide) rfl ?_
        refine pw_goto (tgt := 8) C dX1_reversed_46 (by decide) ?_
        exact ih w_30 t_24 n_25 _ _ (i + 1) (q0 :: acc) S_26 (hext.tr x_27) z_35v z_23v (by simp only [List.length_cons] at hi; omega) (by omega) (by simp only [List.length_cons] at hcp; omega) (by rw [← hq]; simp) (fun k hk => ((o_29 k (by omega))).trans (hf1 k hk))
  refine pw_iconst C dX1_reversed_0 ?_
  refine pw_istore_n (i := 3) (lv' := [(0, .ref (A 20)), (1, .int (iZ x)), (2, .int (iZ ((L.length : Nat) : Int))), (3, .int (iZ 0))]) C dX1_reversed_1 rfl (by decide) rfl ?_
  refine pw_iload_n (i := 1) C dX1_reversed_2 rfl rfl ?_
  refine pw_istore (lv' := [(0, .ref (A 20)), (1, .int (iZ x)), (2, .int (iZ ((L.length : Nat) : Int))), (3, .int (iZ 0)), (4, .int (iZ x))]) C dX1_reversed_3 (by decide) rfl ?_
  refine pw_iconst C dX1_reversed_5 ?_
  refine pw_istore (lv' := [(0, .ref (A 20)), (1, .int (iZ x)), (2, .int (iZ ((L.length : Nat) : Int))), (3, .int (iZ 0)), (4, .int (iZ x)), (5, .int (iZ 0))]) C dX1_reversed_6 (by decide) rfl ?_
  exact loop L w t n 0 _ 0 [] hS Ext.rf hx (Vl.nil hS) (by omega) (by omega) (by omega) (by simp) (fun _ _ => rfl)

set_option maxRecDepth 100000 in
set_option maxHeartbeats 4000000 in
/-- roomFor -/
theorem m_X1_roomFor (g : pw_P) (l : Launch) {w : pw_W} {a : Nat} {x : Int} (hx : inI x) : pw_M g l yX1_roomFor cX1_roomFor 2 (some .int) { frames := 1, cells := 0, slots := 0, locals := 30 } [.ref a, .int (iZ x)] w (fun r w' => w = w' ∧ r = some (.int (iZ (3 * (if 1000 < x then 1000 else x) + 1250)))) := by
  refine pw_M.of (by decide) (Nat.le_of_ble_eq_true rfl) rfl ?_
  intro p e s m args below meth c C hr hn
  refine pw_iconst C dX1_roomFor_0 ?_
  refine pw_iload_n (i := 1) C dX1_roomFor_1 rfl rfl ?_
  refine pw_sipush C dX1_roomFor_2 (by decide) ?_
  refine pw_min (x := x) (z := 1000) (st := [.int (iZ 3)]) C (by omega) (by omega) ml_X1_41 ma_min_s ma_i ma_min_c (by decide) (Nat.le_of_ble_eq_true rfl) ⟨Nat.le_of_ble_eq_true rfl, Nat.le_of_ble_eq_true rfl⟩ dX1_roomFor_5 ?_
  refine pw_imul C dX1_roomFor_8 ?_
  refine pw_sipush C dX1_roomFor_9 (by decide) ?_
  refine pw_iadd C dX1_roomFor_12 ?_
  exact pw_iret C hr dX1_roomFor_13 ⟨rfl, rfl⟩

