theorem FnI.sam1 {g : pw_P} {w w' : pw_W} {A D : Nat → Nat} {ds : List Df} (h : FnI g w A D ds) (hf : ∀ k, (k = 16 ∨ k = 17 ∨ (100 ≤ k ∧ k < 100 + ds.length)) → w' k = w k) : FnI g w' A D ds := by
  obtain ⟨F, h1, h2, h3, h4, h5⟩ := h
  exact ⟨F, (hf 16 (by omega)).trans h1, (hf 17 (by omega)).trans h2, h3, h4, h5.same (fun k a b => hf k (by omega))⟩
set_option maxRecDepth 100000 in
set_option maxHeartbeats 4000000 in
/-- define -/
theorem m_X1_define (g : pw_P) (l : Launch) {w : pw_W} {A : Nat → Nat} {cap : Nat} {t : Int → Ob} {n kp : Int} (hS : SB g w (A 2) cap t n) (hC : w 20 = (A 20, some (cmE A (-1) kp))) {D : Nat → Nat} {ds : List Df} {T : List Dn} (hF : FnI g w A D ds) (hDk : DsT t kp ds T) (hkp : 24 ≤ kp ∧ kp ≤ n) (hM : TmJ g w A) {fu nk : Nat} (hI : EvI g w A fu 0 0 nk) {z p0 x : Int} {N P X : Ob} (hz : Vl t n z N) (hp : Vl t n p0 P) (hx : Vl t n x X) : pw_M g l yX1_define cX1_define 4 (some .int) { frames := 5, cells := 1, slots := 4, locals := 117 } [.ref (A 20), .int (iZ z), .int (iZ p0), .int (iZ x)] w (fun r w' => CmP g w w' A cap t n fu kp 0 ((((defC T N P X).1, none, 0, 0, nk), (defC T N P X).2)) r) := by
  refine pw_M.of (by decide) (Nat.le_of_ble_eq_true rfl) rfl ?_
  intro p e s m args below meth c C hr hn
  have hn0 := hS.n
  have hD : DsT t n ds T := hDk.ext ⟨hkp.2, fun _ _ _ => rfl⟩
  have hzr := Vl.rng hS hz
  have hpr0 := Vl.rng hS hp
  have hxr := Vl.rng hS hx
  refine pw_aload_n (i := 0) C dX1_define_0 rfl rfl (Or.inr ⟨_, rfl⟩) ?_
  refine pw_iload_n (i := 1) C dX1_define_1 rfl rfl ?_
  refine pw_iload_n (i := 2) C dX1_define_2 rfl rfl ?_
  refine pw_iload_n (i := 3) C dX1_define_3 rfl rfl ?_
  refine pw_callV (As := [.int (iZ z), .int (iZ p0), .int (iZ x)]) (st := []) C (m_X1_isDefinition g l hS hC hF hD hM hz hp hx) my_X1_isDefinition ml_X1_140 (pw_rec.of C hC cl_X1.1) rfl ⟨Nat.le_of_ble_eq_true rfl, Nat.le_of_ble_eq_true rfl⟩ ⟨by (try dsimp only); omega, by (try dsimp only); omega⟩ rfl (Nat.le_of_ble_eq_true rfl) dX1_define_4 ?_
  rintro _ w_1 ⟨rfl, M_2, o_3⟩
  have S_4 := hS.same (w' := w_1) (fun k h1 h2 => o_3 k (by omega))
  have F_5 := hF.same (w' := w_1) (fun k h => o_3 k (by omega))
  refine pw_stk (st' := [.int (iZ (b2i (isDef T N P X)))]) rfl ?_
  refine pw_if_neB (tgt := 12) C dX1_define_7 (by decide) (fun h_6 => ?_) (fun h_6 => ?_)
  · have hid := h_6
    refine pw_aload_n (i := 0) C dX1_define_12 rfl rfl (Or.inr ⟨_, rfl⟩) ?_
    have c_7 := (o_3 20 (by omega)).trans hC
    refine pw_get (j := 1) C cl_X1 fl_X1_15 (by decide) rfl c_7 rfl dX1_define_13 ?_
    refine pw_iload_n (i := 1) C dX1_define_16 rfl rfl ?_
    refine pw_callV (As := [.int (iZ z)]) (st := []) C (m_X4_find g l F_5 (x := z) (by omega)) my_X4_find ml_X1_122 (F_5.rec C) rfl ⟨Nat.le_of_ble_eq_true rfl, Nat.le_of_ble_eq_true rfl⟩ ⟨by (try dsimp only); omega, by (try dsimp only); omega⟩ rfl (Nat.le_of_ble_eq_true rfl) dX1_define_17 ?_
    rintro _ _ ⟨rfl, rfl⟩
    rcases DsT.look hS hz 0 hD with ⟨l1, hdl⟩ | ⟨j0, d, D1, l1, hj, l3, hdl, l5, l6, l7, l8, l9⟩
    · rw [l1]
      refine pw_stk (st' := [.null]) rfl ?_
      refine pw_ifnullZ (tgt := 25) C dX1_define_20 (by decide) ?_
      refine pw_aload_n (i := 0) C dX1_define_25 rfl rfl (Or.inr ⟨_, rfl⟩) ?_
      refine pw_get (j := 1) C cl_X1 fl_X1_15 (by decide) rfl c_7 rfl dX1_define_26 ?_
      refine pw_callV (As := []) (st := []) C (fn_isFull g l F_5) my_X4_isFull ml_X1_144 (F_5.rec C) rfl ⟨Nat.le_of_ble_eq_true rfl, Nat.le_of_ble_eq_true rfl⟩ ⟨by (try dsimp only); omega, by (try dsimp only); omega⟩ rfl (Nat.le_of_ble_eq_true rfl) dX1_define_29 ?_
      rintro _ _ ⟨rfl, rfl⟩
      refine pw_stk (st' := [.int (iZ (b2i (decide (40 ≤ ds.length))))]) rfl ?_
      refine pw_if_eqB (tgt := 38) C dX1_define_32 (by decide) (fun h_9 => ?_) (fun h_9 => ?_)
      · have hfl := h_9
        have hfl2 := of_decide_eq_false hfl
        refine pw_aload_n (i := 0) C dX1_define_38 rfl rfl (Or.inr ⟨_, rfl⟩) ?_
        refine pw_get (j := 1) C cl_X1 fl_X1_15 (by decide) rfl c_7 rfl dX1_define_39 ?_
        refine pw_new (100 + ds.length) (fs := [.int (iZ 0), .int (iZ 0), .int (iZ 0), .int (iZ 0)]) C cl_X2 kl_X1_129 in_X2 ii_X2 (nw_fs rfl) (by (try dsimp only); omega) (by (try dsimp only); omega) dX1_define_42 (fun a_10 w_11 k_12 o_13 => ?_)
        have hll : ds.length < 40 := by have := hF.len; omega
        have S_14 := S_4.same (w' := w_11) (fun k h1 h2 => o_13 k (by omega))
        refine pw_dup C dX1_define_45 rfl ?_
        refine pw_iload_n (i := 1) C dX1_define_46 rfl rfl ?_
        refine pw_aload_n (i := 0) C dX1_define_47 rfl rfl (Or.inr ⟨_, rfl⟩) ?_
        have c_15 := (o_13 20 (by omega)).trans c_7
        refine pw_get (j := 0) C cl_X1 fl_X1_9 (by decide) rfl c_15 rfl dX1_define_48 ?_
        refine pw_iload_n (i := 2) C dX1_define_51 rfl rfl ?_
        refine pw_callV (As := [.int (iZ p0)]) (st := [.int (iZ z), .ref a_10, .ref a_10, .ref (A 16)]) C (vr_lengthOf S_14 hp) my_X6_lengthOf ml_X1_47 (S_14.rec C) rfl ⟨Nat.le_of_ble_eq_true rfl, Nat.le_of_ble_eq_true rfl⟩ ⟨by (try dsimp only); omega, by (try dsimp only); omega⟩ rfl (Nat.le_of_ble_eq_true rfl) dX1_define_52 ?_
        rintro _ _ ⟨rfl, rfl⟩
        refine pw_stk (st' := [.int (iZ (obLen P)), .int (iZ z), .ref a_10, .ref a_10, .ref (A 16)]) rfl ?_
        refine pw_iload_n (i := 2) C dX1_define_55 rfl rfl ?_
        refine pw_iload_n (i := 3) C dX1_define_56 rfl rfl ?_
        refine pw_callI (As := [.int (iZ z), .int (iZ (obLen P)), .int (iZ p0), .int (iZ x)]) (st := [.ref a_10, .ref (A 16)]) C (m_X2_init g l k_12) my_X2_init ml_X1_148 rfl ⟨Nat.le_of_ble_eq_true rfl, Nat.le_of_ble_eq_true rfl⟩ ⟨by (try dsimp only); omega, by (try dsimp only); omega⟩ rfl (Nat.le_of_ble_eq_true rfl) dX1_define_57 ?_
        rintro _ w_16 ⟨rfl, k_17, o_18⟩
        refine pw_stk (st' := [.ref a_10, .ref (A 16)]) rfl ?_
        have hFb : FnI g w_16 A (va_up D ds.length a_10) ds := (FnI.sam1 F_5 (w' := w_16) (fun k h => (o_18 k (by omega)).trans (o_13 k (by omega)))).upD
        refine pw_callV (As := [.ref a_10]) (st := []) C (m_X4_add g l (d := (z, obLen P, p0, x)) hFb k_17 (va_up_self _ _ _) hll ⟨by (show inI z); omega, by (show inI (obLen P)); have := obLen_le_ht P; have := Vl.ht hS hp; have := obLen_ge P; omega, by (show inI p0); omega, by (show inI x); omega⟩) my_X4_add ml_X1_151 (hFb.rec C) rfl ⟨Nat.le_of_ble_eq_true rfl, Nat.le_of_ble_eq_true rfl⟩ ⟨by (try dsimp only); omega, by (try dsimp only); omega⟩ rfl (Nat.le_of_ble_eq_true rfl) dX1_define_60 ?_
        rintro _ w_19 ⟨rfl, hFc, o_20⟩
        have hSc := S_14.same (w' := w_19) (fun k h1 h2 => (o_20 k (by omega)).trans (o_18 k (by omega)))
        obtain ⟨a3, a4, a5, a6, a7, hc2⟩ := hSc.cell
        refine pw_stk (st' := []) rfl ?_
        refine pw_aload_n (i := 0) C dX1_define_63 rfl rfl (Or.inr ⟨_, rfl⟩) ?_
        refine pw_aload_n (i := 0) C dX1_define_64 rfl rfl (Or.inr ⟨_, rfl⟩) ?_
        have c_21 := ((o_20 20 (by omega)).trans (o_18 20 (by omega))).trans c_15
        refine pw_get (j := 0) C cl_X1 fl_X1_9 (by decide) rfl c_21 rfl dX1_define_65 ?_
        refine pw_getN (j := 5) C cl_X6 fn_X1_32 (by decide) rfl hc2 rfl dX1_define_68 ?_
        refine pw_put (j := 5) C cl_X1 fl_X1_38 (by decide) rfl rfl rfl rfl rfl c_21 (Nat.le_of_ble_eq_true rfl) dX1_define_71 (fun w_24 k_22 o_23 => ?_)
        have k_25 : w_24 20 = ((A 20), some (OB 1 [.ref (A 2), .ref (A 16), .ref (A 18), .ref (A 21), .int (iZ (-1)), .int (iZ n)])) := k_22
        refine pw_iconst C dX1_define_74 ?_
        refine pw_wide 1 4 (by (try dsimp only); omega) (by (try dsimp only); omega) ?_
        refine pw_iret C hr dX1_define_75 ?_
        unfold defC; rw [if_pos hid, hdl]; simp only; rw [if_neg (by rw [← hD.len]; exact of_decide_eq_false hfl)]
        exact ⟨t, n, -1, n, _, _, rfl, hSc.same (fun k h1 h2 => (o_23 k (by omega))), Ext.rf, by omega, hFc.same (fun k h => (o_23 k (by omega))), DsT.app ⟨hz, rfl, hp, hx⟩ hD, ⟨by omega, by omega, Or.inr rfl⟩, hI.same (fun k h => (o_23 k (by omega)).trans ((o_20 k (by omega)).trans ((o_18 k (by omega)).trans ((o_13 k (by omega)).trans (o_3 k (by omega)))))), M_2.same (fun k h => (o_23 k (by omega)).trans ((o_20 k (by omega)).trans ((o_18 k (by omega)).trans (o_13 k (by omega))))), k_25, rfl, fun k hk => (o_23 k (by omega)).trans ((o_20 k (by omega)).trans ((o_18 k (by omega)).trans ((o_13 k (by omega)).trans (o_3 k (by omega)))))⟩
      · have hfl := h_9
        refine pw_bipush C dX1_define_35 (by decide) ?_
        refine pw_wide 1 4 (by (try dsimp only); omega) (by (try dsimp only); omega) ?_
        refine pw_iret C hr dX1_define_37 ?_
        unfold defC; rw [if_pos hid, hdl]; simp only; rw [if_pos (by rw [← hD.len]; exact of_decide_eq_true hfl)]
        exact ⟨t, n, -1, kp, D, ds, rfl, S_4.same (fun k h1 h2 => rfl), Ext.rf, by omega, F_5.same (fun k h => rfl), hDk, ⟨hkp.1, hkp.2, Or.inl rfl⟩, hI.same (fun k h => (o_3 k (by omega))), M_2.same (fun k h => rfl), c_7, rfl, fun k hk => (o_3 k (by omega))⟩
    · obtain ⟨hd1, hd2⟩ := F_5.get hj
      have hdt := hd2.2.1
      rw [Nat.zero_add] at l1
      rw [l1]
      have hj0 : j0 < 40 := by have h1 := (List.getElem?_eq_some_iff.mp hj).1; have h2 := hF.len; omega
      have hdn : Vl t n d.1 D1.1 := by rw [l5, l6]; exact hz
      refine pw_stk (st' := [.ref (D j0)]) rfl ?_
      refine pw_ifnullR C dX1_define_20 ?_
      refine pw_iconst C dX1_define_23 ?_
      refine pw_wide 1 4 (by (try dsimp only); omega) (by (try dsimp only); omega) ?_
      refine pw_iret C hr dX1_define_24 ?_
      unfold defC; rw [if_pos hid, hdl]
      exact ⟨t, n, -1, kp, D, ds, rfl, S_4.same (fun k h1 h2 => rfl), Ext.rf, by omega, F_5.same (fun k h => rfl), hDk, ⟨hkp.1, hkp.2, Or.inl rfl⟩, hI.same (fun k h => (o_3 k (by omega))), M_2.same (fun k h => rfl), c_7, rfl, fun k hk => (o_3 k (by omega))⟩
  · have hid := h_6
    refine pw_iconst C dX1_define_10 ?_
    have c_27 := (o_3 20 (by omega)).trans hC
    refine pw_wide 1 4 (by (try dsimp only); omega) (by (try dsimp only); omega) ?_
    refine pw_iret C hr dX1_define_11 ?_
    unfold defC; rw [if_neg (by rw [hid]; decide)]
    exact ⟨t, n, -1, kp, D, ds, rfl, S_4.same (fun k h1 h2 => rfl), Ext.rf, by omega, F_5.same (fun k h => rfl), hDk, ⟨hkp.1, hkp.2, Or.inl rfl⟩, hI.same (fun k h => (o_3 k (by omega))), M_2.same (fun k h => rfl), c_27, rfl, fun k hk => (o_3 k (by omega))⟩

set_option maxRecDepth 100000 in
set_option maxHeartbeats 4000000 in
/-- defineAnew -/
theorem m_X1_defineAnew (g : pw_P) (l : Launch) {w : pw_W} {A : Nat → Nat} {cap : Nat} {t : Int → Ob} {n kp : Int} (hS : SB g w (A 2) cap t n) (hC : w 20 = (A 20, some (cmE A (-1) kp))) {D : Nat → Nat} {ds : List Df} {T : List Dn} (hF : FnI g w A D ds) (hDk : DsT t kp ds T) (hkp : 24 ≤ kp ∧ kp ≤ n) (hM : TmJ g w A) {fu nk : Nat} (hI : EvI g w A fu 0 0 nk) {z p0 x : Int} {N P X : Ob} (hz : Vl t n z N) (hp : Vl t n p0 P) (hx : Vl t n x X) : pw_M g l yX1_defineAnew cX1_defineAnew 5 (some .int) { frames := 5, cells := 0, slots := 0, locals := 117 } [.ref (A 20), .int (iZ z), .int (iZ p0), .int (iZ x)] w (fun r w' => CmP g w w' A cap t n fu kp 0 ((((redoC T N P X).1, none, 0, 0, nk), (redoC T N P X).2)) r) := by
  refine pw_M.of (by decide) (Nat.le_of_ble_eq_true rfl) rfl ?_
  intro p e s m args below meth c C hr hn
  have hn0 := hS.n
  have hD : DsT t n ds T := hDk.ext ⟨hkp.2, fun _ _ _ => rfl⟩
  have hzr := Vl.rng hS hz
  have hpr0 := Vl.rng hS hp
  have hxr := Vl.rng hS hx
  refine pw_aload_n (i := 0) C dX1_defineAnew_0 rfl rfl (Or.inr ⟨_, rfl⟩) ?_
  refine pw_iload_n (i := 1) C dX1_defineAnew_1 rfl rfl ?_
  refine pw_iload_n (i := 2) C dX1_defineAnew_2 rfl rfl ?_
  refine pw_iload_n (i := 3) C dX1_defineAnew_3 rfl rfl ?_
  refine pw_callV (As := [.int (iZ z), .int (iZ p0), .int (iZ x)]) (st := []) C (m_X1_isDefinition g l hS hC hF hD hM hz hp hx) my_X1_isDefinition ml_X1_140 (pw_rec.of C hC cl_X1.1) rfl ⟨Nat.le_of_ble_eq_true rfl, Nat.le_of_ble_eq_true rfl⟩ ⟨by (try dsimp only); omega, by (try dsimp only); omega⟩ rfl (Nat.le_of_ble_eq_true rfl) dX1_defineAnew_4 ?_
  rintro _ w_1 ⟨rfl, M_2, o_3⟩
  have S_4 := hS.same (w' := w_1) (fun k h1 h2 => o_3 k (by omega))
  have F_5 := hF.same (w' := w_1) (fun k h => o_3 k (by omega))
  refine pw_stk (st' := [.int (iZ (b2i (isDef T N P X)))]) rfl ?_
  refine pw_if_neB (tgt := 12) C dX1_defineAnew_7 (by decide) (fun h_6 => ?_) (fun h_6 => ?_)
  · have hid := h_6
    refine pw_aload_n (i := 0) C dX1_defineAnew_12 rfl rfl (Or.inr ⟨_, rfl⟩) ?_
    have c_7 := (o_3 20 (by omega)).trans hC
    refine pw_get (j := 1) C cl_X1 fl_X1_15 (by decide) rfl c_7 rfl dX1_defineAnew_13 ?_
    refine pw_iload_n (i := 1) C dX1_defineAnew_16 rfl rfl ?_
    refine pw_callV (As := [.int (iZ z)]) (st := []) C (m_X4_find g l F_5 (x := z) (by omega)) my_X4_find ml_X1_122 (F_5.rec C) rfl ⟨Nat.le_of_ble_eq_true rfl, Nat.le_of_ble_eq_true rfl⟩ ⟨by (try dsimp only); omega, by (try dsimp only); omega⟩ rfl (Nat.le_of_ble_eq_true rfl) dX1_defineAnew_17 ?_
    rintro _ _ ⟨rfl, rfl⟩
    rcases DsT.look hS hz 0 hD with ⟨l1, hdl⟩ | ⟨j0, d, D1, l1, hj, l3, hdl, l5, l6, l7, l8, l9⟩
    · rw [l1]
      refine pw_stk (st' := [.null]) rfl ?_
      refine pw_astore (lv' := [(0, .ref (A 20)), (1, .int (iZ z)), (2, .int (iZ p0)), (3, .int (iZ x)), (4, .null)]) C dX1_defineAnew_20 (by decide) (Or.inl rfl) rfl ?_
      refine pw_aload C dX1_defineAnew_22 rfl (Or.inl rfl) ?_
      refine pw_ifnonnullZ C dX1_defineAnew_24 ?_
      refine pw_iconst C dX1_defineAnew_27 ?_
      refine pw_wide 0 0 (by (try dsimp only); omega) (by (try dsimp only); omega) ?_
      refine pw_iret C hr dX1_defineAnew_28 ?_
      unfold redoC; rw [if_pos hid, hdl]
      exact ⟨t, n, -1, kp, D, ds, rfl, S_4.same (fun k h1 h2 => rfl), Ext.rf, by omega, F_5.same (fun k h => rfl), hDk, ⟨hkp.1, hkp.2, Or.inl rfl⟩, hI.same (fun k h => (o_3 k (by omega))), M_2.same (fun k h => rfl), c_7, rfl, fun k hk => (o_3 k (by omega))⟩
    · obtain ⟨hd1, hd2⟩ := F_5.get hj
      have hdt := hd2.2.1
      rw [Nat.zero_add] at l1
      rw [l1]
      have hj0 : j0 < 40 := by have h1 := (List.getElem?_eq_some_iff.mp hj).1; have h2 := hF.len; omega
      have hdn : Vl t n d.1 D1.1 := by rw [l5, l6]; exact hz
      refine pw_stk (st' := [.ref (D j0)]) rfl ?_
      refine pw_astore (lv' := [(0, .ref (A 20)), (1, .int (iZ z)), (2, .int (iZ p0)), (3, .int (iZ x)), (4, .ref (D j0))]) C dX1_defineAnew_20 (by decide) (Or.inr ⟨_, rfl⟩) rfl ?_
      refine pw_aload C dX1_defineAnew_22 rfl (Or.inr ⟨_, rfl⟩) ?_
      refine pw_ifnonnullR (tgt := 29) C dX1_defineAnew_24 (by decide) ?_
      refine pw_aload C dX1_defineAnew_29 rfl (Or.inr ⟨_, rfl⟩) ?_
      refine pw_getN (j := 1) C cl_X2 fn_X1_128 (by decide) rfl hd1 rfl dX1_defineAnew_31 ?_
      refine pw_aload_n (i := 0) C dX1_defineAnew_34 rfl rfl (Or.inr ⟨_, rfl⟩) ?_
      refine pw_get (j := 0) C cl_X1 fl_X1_9 (by decide) rfl c_7 rfl dX1_defineAnew_35 ?_
      refine pw_iload_n (i := 2) C dX1_defineAnew_38 rfl rfl ?_
      refine pw_callV (As := [.int (iZ p0)]) (st := [.int (iZ d.2.1)]) C (vr_lengthOf S_4 hp) my_X6_lengthOf ml_X1_47 (S_4.rec C) rfl ⟨Nat.le_of_ble_eq_true rfl, Nat.le_of_ble_eq_true rfl⟩ ⟨by (try dsimp only); omega, by (try dsimp only); omega⟩ rfl (Nat.le_of_ble_eq_true rfl) dX1_defineAnew_39 ?_
      rintro _ _ ⟨rfl, rfl⟩
      refine pw_stk (st' := [.int (iZ (obLen P)), .int (iZ d.2.1)]) rfl ?_
      have hPh := obLen_le_ht P; have hPt := Vl.ht hS hp; have hPg := obLen_ge P
      refine pw_icmp_eq (tgt := 47) C (by omega) (by omega) dX1_defineAnew_42 (by decide) (fun h_10 => ?_) (fun h_10 => ?_)
      · refine pw_aload C dX1_defineAnew_47 rfl (Or.inr ⟨_, rfl⟩) ?_
        refine pw_iload_n (i := 2) C dX1_defineAnew_49 rfl rfl ?_
        refine pw_putN (j := 2) C cl_X2 fn_X1_155 (by decide) rfl rfl rfl rfl rfl hd1 (Nat.le_of_ble_eq_true rfl) dX1_defineAnew_50 (fun w_13 k_11 o_12 => ?_)
        have k_14 : w_13 (100 + j0) = ((D j0), some (OB 2 [.int (iZ d.1), .int (iZ d.2.1), .int (iZ p0), .int (iZ d.2.2.2)])) := k_11
        refine pw_aload C dX1_defineAnew_53 rfl (Or.inr ⟨_, rfl⟩) ?_
        refine pw_iload_n (i := 3) C dX1_defineAnew_55 rfl rfl ?_
        refine pw_putN (j := 3) C cl_X2 fn_X1_158 (by decide) rfl rfl rfl rfl rfl k_14 (Nat.le_of_ble_eq_true rfl) dX1_defineAnew_56 (fun w_17 k_15 o_16 => ?_)
        have k_18 : w_17 (100 + j0) = ((D j0), some (OB 2 [.int (iZ d.1), .int (iZ d.2.1), .int (iZ p0), .int (iZ x)])) := k_15
        obtain ⟨a3, a4, a5, a6, a7, hc2⟩ := (S_4.same (w' := w_17) (fun k h1 h2 => (o_16 k (by omega)).trans (o_12 k (by omega)))).cell
        refine pw_aload_n (i := 0) C dX1_defineAnew_59 rfl rfl (Or.inr ⟨_, rfl⟩) ?_
        refine pw_aload_n (i := 0) C dX1_defineAnew_60 rfl rfl (Or.inr ⟨_, rfl⟩) ?_
        have c_19 := ((o_16 20 (by omega)).trans (o_12 20 (by omega))).trans c_7
        refine pw_get (j := 0) C cl_X1 fl_X1_9 (by decide) rfl c_19 rfl dX1_defineAnew_61 ?_
        refine pw_getN (j := 5) C cl_X6 fn_X1_32 (by decide) rfl hc2 rfl dX1_defineAnew_64 ?_
        refine pw_put (j := 5) C cl_X1 fl_X1_38 (by decide) rfl rfl rfl rfl rfl c_19 (Nat.le_of_ble_eq_true rfl) dX1_defineAnew_67 (fun w_22 k_20 o_21 => ?_)
        have k_23 : w_22 20 = ((A 20), some (OB 1 [.ref (A 2), .ref (A 16), .ref (A 18), .ref (A 21), .int (iZ (-1)), .int (iZ n)])) := k_20
        refine pw_iconst C dX1_defineAnew_70 ?_
        have c_24 := (o_21 (100 + j0) (by omega)).trans k_18
        refine pw_wide 0 0 (by (try dsimp only); omega) (by (try dsimp only); omega) ?_
        refine pw_iret C hr dX1_defineAnew_71 ?_
        unfold redoC; rw [if_pos hid, hdl]; simp only; rw [if_pos (by omega)]
        have hFs : FnI g w_17 A D (ds.set j0 (d.1, d.2.1, p0, x)) := FnI.set (w := w_1) F_5 ⟨hd2.1, hd2.2.1, by (show inI p0); omega, by (show inI x); omega⟩ k_18 (fun k hk => (o_16 k hk).trans (o_12 k hk))
        exact ⟨t, n, -1, n, D, _, rfl, S_4.same (fun k h1 h2 => (o_21 k (by omega)).trans ((o_16 k (by omega)).trans (o_12 k (by omega)))), Ext.rf, by omega, hFs.same (fun k h => (o_21 k (by omega))), DsT.set hS hz hp hx 0 j0 hD (by rw [l1, Nat.zero_add]) hj (by omega), ⟨by omega, by omega, Or.inr rfl⟩, hI.same (fun k h => (o_21 k (by omega)).trans ((o_16 k (by omega)).trans ((o_12 k (by omega)).trans (o_3 k (by omega))))), M_2.same (fun k h => (o_21 k (by omega)).trans ((o_16 k (by omega)).trans (o_12 k (by omega)))), k_23, rfl, fun k hk => (o_21 k (by omega)).trans ((o_16 k (by omega)).trans ((o_12 k (by omega)).trans (o_3 k (by omega))))⟩
      · refine pw_iconst C dX1_defineAnew_45 ?_
        refine pw_wide 0 0 (by (try dsimp only); omega) (by (try dsimp only); omega) ?_
        refine pw_iret C hr dX1_defineAnew_46 ?_
        unfold redoC; rw [if_pos hid, hdl]; simp only; rw [if_neg (by omega)]
        exact ⟨t, n, -1, kp, D, ds, rfl, S_4.same (fun k h1 h2 => rfl), Ext.rf, by omega, F_5.same (fun k h => rfl), hDk, ⟨hkp.1, hkp.2, Or.inl rfl⟩, hI.same (fun k h => (o_3 k (by omega))), M_2.same (fun k h => rfl), c_7, rfl, fun k hk => (o_3 k (by omega))⟩
  · have hid := h_6
    refine pw_iconst C dX1_defineAnew_10 ?_
    have c_25 := (o_3 20 (by omega)).trans hC
    refine pw_wide 0 0 (by (try dsimp only); omega) (by (try dsimp only); omega) ?_
    refine pw_iret C hr dX1_defineAnew_11 ?_
    unfold redoC; rw [if_neg (by rw [hid]; decide)]
    exact ⟨t, n, -1, kp, D, ds, rfl, S_4.same (fun k h1 h2 => rfl), Ext.rf, by omega, F_5.same (fun k h => rfl), hDk, ⟨hkp.1, hkp.2, Or.inl rfl⟩, hI.same (fun k h => (o_3 k (by omega))), M_2.same (fun k h => rfl), c_25, rfl, fun k hk => (o_3 k (by omega))⟩

