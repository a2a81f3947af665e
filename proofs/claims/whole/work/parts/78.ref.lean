/-- the size that the reference keeps for a call is right -/
def SZ (fZ : Int → Int) (z : Int) (Y : Ob) : Prop := isCl Y = true → fZ z = ((min (sz2 Y).1 30000 : Nat) : Int)
def szm (Y : Ob) : Nat := if isCl Y then min (sz2 Y).1 30000 else 1
def szs : List Ob → Nat
  | [] => 0
  | Y :: L => szm Y + szs L
theorem szm_1 (Y : Ob) : 1 ≤ szm Y ∧ szm Y ≤ 30000 := by
  unfold szm
  have := sz2_1 Y
  split <;> omega
theorem mkL_sz : ∀ L : List Ob, (∀ Y ∈ L, isCl Y = false → (sz2 Y).1 = 1) → min (1 + szs L) 30000 = min (1 + (sz2 (mkL L)).2) 30000
  | [], _ => rfl
  | Y :: L, h => by
    have ih := mkL_sz L (fun Z hZ => h Z (List.mem_cons_of_mem _ hZ))
    have e : (sz2 (mkL (Y :: L))).2 = (sz2 Y).1 + (sz2 (mkL L)).2 := rfl
    rw [e]
    simp only [szs]
    have h1 : szm Y = min (sz2 Y).1 30000 := by
      unfold szm
      split
      · rfl
      · rename_i q; rw [h Y List.mem_cons_self (by simpa using q)]; rfl
    rw [h1]
    omega
theorem sz2_call {N : Ob} {L : List Ob} (hN : N ≠ oQuote) : isCl (.add N (mkL L)) = true ∧ (sz2 (.add N (mkL L))).1 = 1 + (sz2 (mkL L)).2 := by
  have hq : obQ (.add N (mkL L)) = false := by unfold obQ; rw [decide_eq_false (p := obCar (.add N (mkL L)) = oQuote) hN]; rfl
  constructor
  · unfold isCl; rw [decide_eq_true (p := obCar (.add N (mkL L)) ≠ oQuote) hN]; rfl
  · simp only [sz2]; rw [if_neg (by rw [hq]; decide)]
/-- the parts that were built, from a place on -/
def BtI (t : Int → Ob) (n : Int) (fZ f : Int → Int) : Int → List Ob → Prop
  | _, [] => True
  | i, Y :: L => Vl t n (f i) Y ∧ SZ fZ (f i) Y ∧ (isCl Y = false → (sz2 Y).1 = 1) ∧ BtI t n fZ f (i + 1) L
theorem BtI.ext {t t' : Int → Ob} {n n' : Int} {fZ fZ' f : Int → Int} (he : Ext t n t' n') (hz : ∀ j Y, Vl t n j Y → SZ fZ j Y → SZ fZ' j Y) : ∀ {i : Int} {L : List Ob}, BtI t n fZ f i L → BtI t' n' fZ' f i L
  | _, [], _ => trivial
  | _, _ :: _, h => ⟨h.1.ext he, hz _ _ h.1 h.2.1, h.2.2.1, BtI.ext he hz h.2.2.2⟩
theorem BtI.split {t : Int → Ob} {n : Int} {fZ f : Int → Int} : ∀ {i : Int} {L M : List Ob}, BtI t n fZ f i (L ++ M) ↔ BtI t n fZ f i L ∧ BtI t n fZ f (i + L.length) M
  | i, [], M => by simp [BtI]
  | i, Y :: L, M => by
    simp only [List.cons_append, BtI, BtI.split (i := i + 1) (L := L) (M := M), List.length_cons]
    rw [show i + 1 + (L.length : Int) = i + ((L.length + 1 : Nat) : Int) by omega]
    constructor
    · rintro ⟨a, b, c, d, e⟩; exact ⟨⟨a, b, c, d⟩, e⟩
    · rintro ⟨⟨a, b, c, d⟩, e⟩; exact ⟨a, b, c, d, e⟩
theorem BtI.one {t : Int → Ob} {n : Int} {fZ f : Int → Int} : ∀ {i : Int} {L : List Ob} (Y : Ob), Y ∈ L → BtI t n fZ f i L → (isCl Y = false → (sz2 Y).1 = 1)
  | _, Z :: L, Y, hm, h => by
    rcases List.mem_cons.mp hm with e | e
    · rw [e]; exact h.2.2.1
    · exact BtI.one Y e h.2.2.2
theorem BtI.up {t : Int → Ob} {n : Int} {fZ f : Int → Int} {k v : Int} : ∀ {i : Int} {L : List Ob}, BtI t n fZ f i L → i + L.length ≤ k → BtI t n fZ (upz f k v) i L
  | _, [], _, _ => trivial
  | i, Y :: L, h, hk => by
    simp only [List.length_cons] at hk
    rw [BtI, upz_ne _ _ (by omega)]
    exact ⟨h.1, h.2.1, h.2.2.1, BtI.up h.2.2.2 (by omega)⟩
theorem RS.size {g : pw_P} {w w' : pw_W} {B : Nat → Nat} {t : Int → Ob} {n : Int} {s : Nat} {fZ fZ' : Int → Int} (h : RS g w B t n s fZ) (h3 : w' 1004 = (B 3, some (AI g 40000 fZ'))) (hr : ∀ j, inI (fZ' j)) (hf : ∀ k, (1001 ≤ k ∧ k ≤ 1010 ∧ k ≠ 1008 ∧ k ≠ 1004) → w' k = w k) : RS g w' B t n s fZ' := by
  obtain ⟨fL, fR, fN, fH, fV, fD, fM, fE, a0, a1, a2, a3, a4, a5, a6, a8, a9, ⟨u0, u1, u2, u3, u4, u5, u6, u8, u9⟩, rest⟩ := h
  exact ⟨fL, fR, fN, fH, fV, fD, fM, fE, (hf 1001 (by omega)).trans a0, (hf 1002 (by omega)).trans a1, (hf 1003 (by omega)).trans a2, h3, (hf 1005 (by omega)).trans a4, (hf 1006 (by omega)).trans a5, (hf 1007 (by omega)).trans a6, (hf 1009 (by omega)).trans a8, (hf 1010 (by omega)).trans a9, ⟨u0, u1, u2, hr, u4, u5, u6, u8, u9⟩, rest⟩
theorem RS.sz {g : pw_P} {w : pw_W} {B : Nat → Nat} {t : Int → Ob} {n : Int} {s : Nat} {fZ : Int → Int} (h : RS g w B t n s fZ) : w 1004 = (B 3, some (AI g 40000 fZ)) ∧ ∀ j, inI (fZ j) := by
  obtain ⟨fL, fR, fN, fH, fV, fD, fM, fE, a0, a1, a2, a3, a4, a5, a6, a8, a9, hu, rest⟩ := h
  exact ⟨a3, hu.2.2.2.1⟩
set_option maxRecDepth 100000 in
set_option maxHeartbeats 4000000 in
/-- sizeOf -/
theorem m_X10_sizeOf (g : pw_P) (l : Launch) {w : pw_W} {b : Nat} {B : Nat → Nat} {x : Nat → Int} (h0 : w 1000 = (b, some (mdE B x))) {t : Int → Ob} {n : Int} {sN : Nat} {fZ : Int → Int} (hR : RS g w B t n sN fZ) (h7 : x 7 = n) (h10 : x 10 = ((sN : Nat) : Int)) (hK : RK t n) {o : Int} {X : Ob} (ho : Vl t n o X) (hsz : SZ fZ o X) : pw_M g l yX10_sizeOf cX10_sizeOf 2 (some .int) { frames := 2, cells := 0, slots := 0, locals := 42 } [.ref b, .int (iZ o)] w (fun r w' => w = w' ∧ r = some (.int (iZ ((szm X : Nat) : Int)))) := by
  refine pw_M.of (by decide) (Nat.le_of_ble_eq_true rfl) rfl ?_
  intro p e s m args below meth c C hr hn
  have hRn := hR.n
  have hor := Vl.rg hR ho
  obtain ⟨hz1, hz2⟩ := RS.sz hR
  refine pw_aload_n (i := 0) C dX10_sizeOf_0 rfl rfl (Or.inr ⟨_, rfl⟩) ?_
  refine pw_iload_n (i := 1) C dX10_sizeOf_1 rfl rfl ?_
  refine pw_callV (As := [.int (iZ o)]) (st := []) C (m_X10_isCall g l h0 hR h7 h10 hK ho) my_X10_isCall ml_X10_304 (pw_rec.of C h0 cl_X10.1) rfl ⟨Nat.le_of_ble_eq_true rfl, Nat.le_of_ble_eq_true rfl⟩ ⟨by (try dsimp only); omega, by (try dsimp only); omega⟩ rfl (Nat.le_of_ble_eq_true rfl) dX10_sizeOf_2 ?_
  rintro _ _ ⟨rfl, rfl⟩
  refine pw_stk (st' := [.int (iZ (b2i (isCl X)))]) rfl ?_
  refine pw_if_eqB (tgt := 17) C dX10_sizeOf_5 (by decide) (fun h_1 => ?_) (fun h_1 => ?_)
  · refine pw_iconst C dX10_sizeOf_17 ?_
    exact pw_iret C hr dX10_sizeOf_18 ⟨rfl, by unfold szm; rw [if_neg (by rw [h_1]; decide)]; rfl⟩
  · refine pw_aload_n (i := 0) C dX10_sizeOf_8 rfl rfl (Or.inr ⟨_, rfl⟩) ?_
    refine pw_get (j := 3) C cl_X10 fl_X10_20 (by decide) rfl h0 rfl dX10_sizeOf_9 ?_
    refine pw_stk (st' := [.ref (B 3)]) rfl ?_
    refine pw_iload_n (i := 1) C dX10_sizeOf_12 rfl rfl ?_
    have g_2 := hz2 o
    refine pw_iald C hz1 ⟨by omega, by omega, by omega⟩ dX10_sizeOf_13 ?_
    refine pw_goto (tgt := 18) C dX10_sizeOf_14 (by decide) ?_
    exact pw_iret C hr dX10_sizeOf_18 ⟨rfl, by unfold szm; rw [if_pos h_1, hsz h_1]⟩

set_option maxRecDepth 100000 in
set_option maxHeartbeats 4000000 in
/-- build -/
theorem m_X10_build (g : pw_P) (l : Launch) {w : pw_W} {b : Nat} {B : Nat → Nat} {x : Nat → Int} (h0 : w 1000 = (b, some (mdE B x))) {v c0 : Int} {fk : Int → Int} (h47 : x 47 = v) (f1 : w 1047 = (B 46, some (AI g 2400 fk))) (f2 : ∀ j, inI (fk j)) (hv : 0 ≤ v ∧ v < 2400) : pw_M g l yX10_build cX10_build 2 none { frames := 0, cells := 0, slots := 0, locals := 0 } [.ref b, .int (iZ c0)] w (fun r w' => r = none ∧ w' 1000 = (b, some (mdE B (va_up x 47 (v + 1)))) ∧ w' 1047 = (B 46, some (AI g 2400 (upz fk v c0))) ∧ ∀ k, (k ≠ 1000 ∧ k ≠ 1047) → w' k = w k) := by
  refine pw_M.of (by decide) (Nat.le_of_ble_eq_true rfl) rfl ?_
  intro p e s m args below meth c C hr hn
  refine pw_aload_n (i := 0) C dX10_build_0 rfl rfl (Or.inr ⟨_, rfl⟩) ?_
  refine pw_get (j := 46) C cl_X10 fl_X10_101 (by decide) rfl h0 rfl dX10_build_1 ?_
  refine pw_stk (st' := [.ref (B 46)]) rfl ?_
  refine pw_aload_n (i := 0) C dX10_build_4 rfl rfl (Or.inr ⟨_, rfl⟩) ?_
  refine pw_get (j := 47) C cl_X10 fl_X10_307 (by decide) rfl h0 rfl dX10_build_5 ?_
  refine pw_stk (st' := [.int (iZ (x 47)), .ref (B 46)]) rfl ?_
  refine pw_stk (st' := [.int (iZ v), .ref (B 46)]) (by rw [h47]) ?_
  refine pw_iload_n (i := 1) C dX10_build_8 rfl rfl ?_
  refine pw_iast C f1 ⟨by omega, by omega, by omega⟩ dX10_build_9 (fun w_3 k_1 o_2 => ?_)
  refine pw_aload_n (i := 0) C dX10_build_10 rfl rfl (Or.inr ⟨_, rfl⟩) ?_
  refine pw_dup C dX10_build_11 rfl ?_
  have c_4 := (o_2 1000 (by omega)).trans h0
  refine pw_get (j := 47) C cl_X10 fl_X10_307 (by decide) rfl c_4 rfl dX10_build_12 ?_
  refine pw_stk (st' := [.int (iZ (x 47)), .ref b]) rfl ?_
  refine pw_stk (st' := [.int (iZ v), .ref b]) (by rw [h47]) ?_
  refine pw_iconst C dX10_build_15 ?_
  refine pw_iadd C dX10_build_16 ?_
  refine pw_put (j := 47) C cl_X10 fl_X10_307 (by decide) rfl rfl rfl rfl rfl c_4 (Nat.le_of_ble_eq_true rfl) dX10_build_17 (fun w_7 k_5 o_6 => ?_)
  have k_8 : w_7 1000 = (b, some (mdE B (va_up x 47 (v + 1)))) := k_5
  have c_9 := (o_6 1047 (by omega)).trans k_1
  exact pw_vret C hr dX10_build_20 ⟨rfl, k_8, c_9, fun k hk => (o_6 k (by omega)).trans (o_2 k (by omega))⟩

set_option maxRecDepth 100000 in
set_option maxHeartbeats 4000000 in
/-- openCall -/
theorem m_X10_openCall (g : pw_P) (l : Launch) {w : pw_W} {b : Nat} {B : Nat → Nat} {x : Nat → Int} (h0 : w 1000 = (b, some (mdE B x))) {t : Int → Ob} {n : Int} {sN : Nat} {fZ : Int → Int} (hR : RS g w B t n sN fZ) (h7 : x 7 = n) (h10 : x 10 = ((sN : Nat) : Int)) (hK : RK t n) {o : Int} {X : Ob} (ho : Vl t n o X) {g1 g2 g3 : Int → Int} (f1 : w 1043 = (B 42, some (AI g 1200 g1))) (f2 : ∀ j, inI (g1 j)) (f3 : w 1044 = (B 43, some (AI g 1200 g2))) (f4 : ∀ j, inI (g2 j)) (f5 : w 1045 = (B 44, some (AI g 1200 g3))) (f6 : ∀ j, inI (g3 j)) {c1 v1 : Int} (h45 : x 45 = c1) (h47 : x 47 = v1) (hc1 : 0 ≤ c1 ∧ c1 < 1200) (hp : obP X = true) : pw_M g l yX10_openCall cX10_openCall 2 none { frames := 0, cells := 0, slots := 0, locals := 0 } [.ref b, .int (iZ o)] w (fun r w' => r = none ∧ ∃ y, w' 1000 = (b, some (mdE B (va_up x 45 (c1 + 1)))) ∧ w' 1043 = (B 42, some (AI g 1200 (upz g1 c1 o))) ∧ w' 1044 = (B 43, some (AI g 1200 (upz g2 c1 y))) ∧ w' 1045 = (B 44, some (AI g 1200 (upz g3 c1 v1))) ∧ Vl t n y (obCdr X) ∧ ∀ k, (k ≠ 1000 ∧ k ≠ 1043 ∧ k ≠ 1044 ∧ k ≠ 1045) → w' k = w k) := by
  refine pw_M.of (by decide) (Nat.le_of_ble_eq_true rfl) rfl ?_
  intro p e s m args below meth c C hr hn
  obtain ⟨fL, fR, fH, fV, l0, l1, l4, l5, ⟨m0, m1, m4, m5⟩, hln⟩ := RS.lens hR
  have hRn := hR.n
  have hor := Vl.rg hR ho
  have hcc := (hln o X ho).1 hp
  refine pw_aload_n (i := 0) C dX10_openCall_0 rfl rfl (Or.inr ⟨_, rfl⟩) ?_
  refine pw_get (j := 42) C cl_X10 fl_X10_92 (by decide) rfl h0 rfl dX10_openCall_1 ?_
  refine pw_stk (st' := [.ref (B 42)]) rfl ?_
  refine pw_aload_n (i := 0) C dX10_openCall_4 rfl rfl (Or.inr ⟨_, rfl⟩) ?_
  refine pw_get (j := 45) C cl_X10 fl_X10_313 (by decide) rfl h0 rfl dX10_openCall_5 ?_
  refine pw_stk (st' := [.int (iZ (x 45)), .ref (B 42)]) rfl ?_
  refine pw_stk (st' := [.int (iZ c1), .ref (B 42)]) (by rw [h45]) ?_
  refine pw_iload_n (i := 1) C dX10_openCall_8 rfl rfl ?_
  refine pw_iast C f1 ⟨by omega, by omega, by omega⟩ dX10_openCall_9 (fun w_3 k_1 o_2 => ?_)
  refine pw_aload_n (i := 0) C dX10_openCall_10 rfl rfl (Or.inr ⟨_, rfl⟩) ?_
  have c_4 := (o_2 1000 (by omega)).trans h0
  refine pw_get (j := 43) C cl_X10 fl_X10_95 (by decide) rfl c_4 rfl dX10_openCall_11 ?_
  refine pw_stk (st' := [.ref (B 43)]) rfl ?_
  refine pw_aload_n (i := 0) C dX10_openCall_14 rfl rfl (Or.inr ⟨_, rfl⟩) ?_
  refine pw_get (j := 45) C cl_X10 fl_X10_313 (by decide) rfl c_4 rfl dX10_openCall_15 ?_
  refine pw_stk (st' := [.int (iZ (x 45)), .ref (B 43)]) rfl ?_
  refine pw_stk (st' := [.int (iZ c1), .ref (B 43)]) (by rw [h45]) ?_
  refine pw_aload_n (i := 0) C dX10_openCall_18 rfl rfl (Or.inr ⟨_, rfl⟩) ?_
  refine pw_get (j := 1) C cl_X10 fl_X10_14 (by decide) rfl c_4 rfl dX10_openCall_19 ?_
  refine pw_stk (st' := [.ref (B 1), .int (iZ c1), .ref (B 43)]) rfl ?_
  refine pw_iload_n (i := 1) C dX10_openCall_22 rfl rfl ?_
  have c_5 := (o_2 1002 (by omega)).trans l1
  have g_6 := m1 o
  refine pw_iald C c_5 ⟨by omega, by omega, by omega⟩ dX10_openCall_23 ?_
  have c_7 := (o_2 1044 (by omega)).trans f3
  refine pw_iast C c_7 ⟨by omega, by omega, by omega⟩ dX10_openCall_24 (fun w_10 k_8 o_9 => ?_)
  refine pw_aload_n (i := 0) C dX10_openCall_25 rfl rfl (Or.inr ⟨_, rfl⟩) ?_
  have c_11 := (o_9 1000 (by omega)).trans c_4
  refine pw_get (j := 44) C cl_X10 fl_X10_98 (by decide) rfl c_11 rfl dX10_openCall_26 ?_
  refine pw_stk (st' := [.ref (B 44)]) rfl ?_
  refine pw_aload_n (i := 0) C dX10_openCall_29 rfl rfl (Or.inr ⟨_, rfl⟩) ?_
  refine pw_get (j := 45) C cl_X10 fl_X10_313 (by decide) rfl c_11 rfl dX10_openCall_30 ?_
  refine pw_stk (st' := [.int (iZ (x 45)), .ref (B 44)]) rfl ?_
  refine pw_stk (st' := [.int (iZ c1), .ref (B 44)]) (by rw [h45]) ?_
  refine pw_aload_n (i := 0) C dX10_openCall_33 rfl rfl (Or.inr ⟨_, rfl⟩) ?_
  refine pw_get (j := 47) C cl_X10 fl_X10_307 (by decide) rfl c_11 rfl dX10_openCall_34 ?_
  refine pw_stk (st' := [.int (iZ (x 47)), .int (iZ c1), .ref (B 44)]) rfl ?_
  refine pw_stk (st' := [.int (iZ v1), .int (iZ c1), .ref (B 44)]) (by rw [h47]) ?_
  have c_12 := ((o_9 1045 (by omega)).trans (o_2 1045 (by omega))).trans f5
  refine pw_iast C c_12 ⟨by omega, by omega, by omega⟩ dX10_openCall_37 (fun w_15 k_13 o_14 => ?_)
  refine pw_aload_n (i := 0) C dX10_openCall_38 rfl rfl (Or.inr ⟨_, rfl⟩) ?_
  refine pw_dup C dX10_openCall_39 rfl ?_
  have c_16 := (o_14 1000 (by omega)).trans c_11
  refine pw_get (j := 45) C cl_X10 fl_X10_313 (by decide) rfl c_16 rfl dX10_openCall_40 ?_
  refine pw_stk (st' := [.int (iZ (x 45)), .ref b]) rfl ?_
  refine pw_stk (st' := [.int (iZ c1), .ref b]) (by rw [h45]) ?_
  refine pw_iconst C dX10_openCall_43 ?_
  refine pw_iadd C dX10_openCall_44 ?_
  refine pw_put (j := 45) C cl_X10 fl_X10_313 (by decide) rfl rfl rfl rfl rfl c_16 (Nat.le_of_ble_eq_true rfl) dX10_openCall_45 (fun w_19 k_17 o_18 => ?_)
  have k_20 : w_19 1000 = (b, some (mdE B (va_up x 45 (c1 + 1)))) := k_17
  have c_21 := ((o_18 1043 (by omega)).trans ((o_14 1043 (by omega)).trans (o_9 1043 (by omega)))).trans k_1
  have c_22 := ((o_18 1044 (by omega)).trans (o_14 1044 (by omega))).trans k_8
  have c_23 := (o_18 1045 (by omega)).trans k_13
  exact pw_vret C hr dX10_openCall_48 ⟨rfl, fR o, k_20, c_21, c_22, c_23, hcc.2, fun k hk => (o_18 k (by omega)).trans ((o_14 k (by omega)).trans ((o_9 k (by omega)).trans (o_2 k (by omega))))⟩

theorem SZ.mono {t t' : Int → Ob} {n n' : Int} {fZ fZ' : Int → Int} (hz : ∀ j : Int, 0 ≤ j → j < n → fZ' j = fZ j) : ∀ j Y, Vl t n j Y → SZ fZ j Y → SZ fZ' j Y := fun j Y hj h hc => by rw [hz j hj.1 hj.2.1]; exact h hc
theorem SZ.set {g : pw_P} {w : pw_W} {B : Nat → Nat} {t : Int → Ob} {n z : Int} {s : Nat} {fZ : Int → Int} {X : Ob} {v : Int} (hR : RS g w B t n s fZ) (hz : Vl t n z X) (hv : isCl X = true → v = ((min (sz2 X).1 30000 : Nat) : Int)) : ∀ j Y, Vl t n j Y → SZ fZ j Y → SZ (upz fZ z v) j Y := by
  intro j Y hj h hc
  by_cases e : j = z
  · have hXY := (RS.inj hR hj hz).mp e
    rw [e, upz_self, hXY]
    exact hv (by rw [← hXY]; exact hc)
  · rw [upz_ne _ _ e]; exact h hc
theorem szs_le : ∀ L : List Ob, szs L ≤ 30000 * L.length
  | [] => Nat.le_refl _
  | Y :: L => by have := szs_le L; have := (szm_1 Y).2; simp only [szs, List.length_cons]; omega
set_option maxRecDepth 100000 in
set_option maxHeartbeats 4000000 in
/-- callFrom -/
theorem m_X10_callFrom (g : pw_P) (l : Launch) {w : pw_W} {b : Nat} {B : Nat → Nat} {x : Nat → Int} (h0 : w 1000 = (b, some (mdE B x))) {t : Int → Ob} {n : Int} {sN : Nat} {fZ : Int → Int} (hR : RS g w B t n sN fZ) (h7 : x 7 = n) (h10 : x 10 = ((sN : Nat) : Int)) (hK : RK t n) {f0 fr : Int} {N : Ob} {L : List Ob} {fk : Int → Int} (hf0 : Vl t n f0 N) (hNq : N ≠ oQuote) (h47 : x 47 = fr + ((L.length : Nat) : Int)) (hfr : 0 ≤ fr ∧ fr + ((L.length : Nat) : Int) ≤ 2400) (f1 : w 1047 = (B 46, some (AI g 2400 fk))) (f2 : ∀ j, inI (fk j)) (hBt0 : BtI t n fZ fk fr L) (hLs : L.length ≤ 1000) (hcap : n + (L.length : Int) + 1 ≤ 40000) : pw_M g l yX10_callFrom cX10_callFrom 6 (some .int) { frames := 3, cells := 0, slots := 0, locals := 63 } [.ref b, .int (iZ f0), .int (iZ fr)] w (fun r w' => ∃ (z : Int) (t' : Int → Ob) (n' : Int) (s' : Nat) (fZ' : Int → Int), r = some (.int (iZ z)) ∧ w' 1000 = (b, some (mdE B (va_up (va_up x 7 n') 10 ((s' : Nat) : Int)))) ∧ RS g w' B t' n' s' fZ' ∧ Ext t n t' n' ∧ n' ≤ n + (L.length : Int) + 1 ∧ s' ≤ sN ∧ (∀ j Y, Vl t n j Y → SZ fZ j Y → SZ fZ' j Y) ∧ Vl t' n' z (.add N (mkL L)) ∧ SZ fZ' z (.add N (mkL L)) ∧ ∀ k, (k < 1000 ∨ 1010 < k ∨ k = 1008) → w' k = w k) := by
  refine pw_M.of (by decide) (Nat.le_of_ble_eq_true rfl) rfl ?_
  intro p e s m args below meth c C hr hn
  have hRn := hR.n
  have hfr0 := Vl.rg hR hf0
  have loop : ∀ (kk : Nat) (w1 : pw_W) (t1 : Int → Ob) (n1 : Int) (s1 : Nat) (Z1 : Int → Int) (v : Int) (L1 M : List Ob), L1.length = kk → L1 ++ M = L → RS g w1 B t1 n1 s1 Z1 → RK t1 n1 → Ext t n t1 n1 → Vl t1 n1 v (mkL M) → w1 1000 = (b, some (mdE B (va_up (va_up x 7 n1) 10 ((s1 : Nat) : Int)))) → n1 ≤ n + (M.length : Int) → s1 ≤ sN → (∀ j Y, Vl t n j Y → SZ fZ j Y → SZ Z1 j Y) → BtI t1 n1 Z1 fk fr L1 → (∀ k, (k < 1000 ∨ 1010 < k ∨ k = 1008) → w1 k = w k) → pw_G g p l e { frames := 3, cells := 0, slots := 0, locals := 63 } s m args below meth c 6 (pw_Q g below (fun r w' => ∃ (z : Int) (t' : Int → Ob) (n' : Int) (s' : Nat) (fZ' : Int → Int), r = some (.int (iZ z)) ∧ w' 1000 = (b, some (mdE B (va_up (va_up x 7 n') 10 ((s' : Nat) : Int)))) ∧ RS g w' B t' n' s' fZ' ∧ Ext t n t' n' ∧ n' ≤ n + (L.length : Int) + 1 ∧ s' ≤ sN ∧ (∀ j Y, Vl t n j Y → SZ fZ j Y → SZ fZ' j Y) ∧ Vl t' n' z (.add N (mkL L)) ∧ SZ fZ' z (.add N (mkL L)) ∧ ∀ k, (k < 1000 ∨ 1010 < k ∨ k = 1008) → w' k = w k) args s { frames := 3, cells := 0, slots := 0, locals := 63 }) 0 0 13 [(0, .ref b), (1, .int (iZ f0)), (2, .int (iZ fr)), (3, .int (iZ v)), (4, .int (iZ ((1 + szs M : Nat) : Int))), (5, .int (iZ (fr + ((L1.length : Nat) : Int) - 1)))] [] w1 := by
    intro kk
    induction kk with
    | zero =>
      intro w1 t1 n1 s1 Z1 v L1 M hlk hLM hR1 hK1 hext hv y0 hnn hss hSZ hBt hf1
      have hn1 := hR1.n
      have hext1 := hext.1
      have hvr := Vl.rg hR1 hv
      have hf1' := hf0.ext hext
      have y47 := (hf1 1047 (by omega)).trans f1
      have hszs := szs_le M
      have hMl : M.length ≤ L.length := by rw [← hLM]; simp
      obtain rfl : L1 = [] := List.eq_nil_of_length_eq_zero hlk
      have hlz : ([] : List Ob).length = 0 := rfl
      refine pw_iload C dX10_callFrom_13 rfl ?_
      refine pw_iload_n (i := 2) C dX10_callFrom_15 rfl rfl ?_
      refine pw_icmp_lt (tgt := 54) C (by omega) (by omega) dX10_callFrom_16 (by decide) (fun h_11 => ?_) (fun h_11 => ?_)
      · refine pw_aload_n (i := 0) C dX10_callFrom_54 rfl rfl (Or.inr ⟨_, rfl⟩) ?_
        refine pw_iload_n (i := 1) C dX10_callFrom_55 rfl rfl ?_
        refine pw_iload_n (i := 3) C dX10_callFrom_56 rfl rfl ?_
        refine pw_callV (As := [.int (iZ f0), .int (iZ v)]) (st := []) C (rd_pair g l y0 hR1 rfl rfl hf1' hv (by omega)) my_X10_pair ml_X10_183 (pw_rec.of C y0 cl_X10.1) rfl ⟨Nat.le_of_ble_eq_true rfl, Nat.le_of_ble_eq_true rfl⟩ ⟨by (try dsimp only); omega, by (try dsimp only); omega⟩ rfl (Nat.le_of_ble_eq_true rfl) dX10_callFrom_57 ?_
        rintro _ w_24 ⟨z_12, t_13, n_14, sN_15, Z_16, rfl, e_17, R_18, x_19, hn_20, hs_21, hZ_22, z_12v, o_23⟩
        have x_191 := x_19.1
        have R_18n := R_18.n
        have v_25 := Vl.ext hv x_19
        have v_26 := Vl.ext hf1' x_19
        have K_27 := RK.ext hK1 x_19
        have z_12r := Vl.rg R_18 z_12v
        refine pw_stk (st' := [.int (iZ z_12)]) rfl ?_
        refine pw_istore (lv' := [(0, .ref b), (1, .int (iZ f0)), (2, .int (iZ fr)), (3, .int (iZ v)), (4, .int (iZ ((1 + szs M : Nat) : Int))), (5, .int (iZ z_12))]) C dX10_callFrom_60 (by decide) rfl ?_
        obtain ⟨zz1, zz2⟩ := RS.sz R_18
        refine pw_aload_n (i := 0) C dX10_callFrom_62 rfl rfl (Or.inr ⟨_, rfl⟩) ?_
        refine pw_get (j := 3) C cl_X10 fl_X10_20 (by decide) rfl e_17 rfl dX10_callFrom_63 ?_
        refine pw_stk (st' := [.ref (B 3)]) rfl ?_
        refine pw_iload C dX10_callFrom_66 rfl ?_
        refine pw_iload C dX10_callFrom_68 rfl ?_
        refine pw_sipush C dX10_callFrom_70 (by decide) ?_
        refine pw_icmp_le (tgt := 82) C (by omega) (by omega) dX10_callFrom_73 (by decide) (fun h_28 => ?_) (fun h_28 => ?_)
        · refine pw_iload C dX10_callFrom_82 rfl ?_
          refine pw_iast C zz1 ⟨by omega, by omega, by omega⟩ dX10_callFrom_84 (fun w_31 k_29 o_30 => ?_)
          refine pw_iload C dX10_callFrom_85 rfl ?_
          have c_32 := (o_30 1000 (by omega)).trans e_17
          have hML : M = L := by rw [← hLM]; rfl
          subst hML
          have hval : ((1 + szs M : Nat) : Int) = ((min (sz2 (.add N (mkL M))).1 30000 : Nat) : Int) := by have h1 := mkL_sz M (fun Y hY => BtI.one Y hY hBt0); rw [(sz2_call hNq).2, ← h1]; omega
          exact pw_iret C hr dX10_callFrom_87 ⟨z_12, t_13, n_14, sN_15, _, rfl, c_32, RS.size R_18 k_29 (upz_inI zz2 (by omega)) (fun k hk => (o_30 k (by omega))), hext.tr x_19, by omega, by omega, fun j Y hj hz => SZ.set R_18 z_12v (fun _ => hval) j Y ((hj.ext hext).ext x_19) (SZ.mono (t' := t1) (n' := n1) hZ_22 j Y (hj.ext hext) (hSZ j Y hj hz)), z_12v, fun _ => by rw [upz_self]; exact hval, fun k hk => ((o_30 k (by omega)).trans (o_23 k (by omega))).trans (hf1 k hk)⟩
        · refine pw_sipush C dX10_callFrom_76 (by decide) ?_
          refine pw_goto (tgt := 84) C dX10_callFrom_79 (by decide) ?_
          refine pw_iast C zz1 ⟨by omega, by omega, by omega⟩ dX10_callFrom_84 (fun w_35 k_33 o_34 => ?_)
          refine pw_iload C dX10_callFrom_85 rfl ?_
          have c_36 := (o_34 1000 (by omega)).trans e_17
          have hML : M = L := by rw [← hLM]; rfl
          subst hML
          have hval : 30000 = ((min (sz2 (.add N (mkL M))).1 30000 : Nat) : Int) := by have h1 := mkL_sz M (fun Y hY => BtI.one Y hY hBt0); rw [(sz2_call hNq).2, ← h1]; omega
          exact pw_iret C hr dX10_callFrom_87 ⟨z_12, t_13, n_14, sN_15, _, rfl, c_36, RS.size R_18 k_33 (upz_inI zz2 (by omega)) (fun k hk => (o_34 k (by omega))), hext.tr x_19, by omega, by omega, fun j Y hj hz => SZ.set R_18 z_12v (fun _ => hval) j Y ((hj.ext hext).ext x_19) (SZ.mono (t' := t1) (n' := n1) hZ_22 j Y (hj.ext hext) (hSZ j Y hj hz)), z_12v, fun _ => by rw [upz_self]; exact hval, fun k hk => ((o_34 k (by omega)).trans (o_23 k (by omega))).trans (hf1 k hk)⟩
      · exfalso; omega
    | succ kk ih =>
      intro w1 t1 n1 s1 Z1 v L1 M hlk hLM hR1 hK1 hext hv y0 hnn hss hSZ hBt hf1
      have hn1 := hR1.n
      have hext1 := hext.1
      have hvr := Vl.rg hR1 hv
      have hf1' := hf0.ext hext
      have y47 := (hf1 1047 (by omega)).trans f1
      have hszs := szs_le M
      have hMl : M.length ≤ L.length := by rw [← hLM]; simp
      obtain ⟨L2, Y, rfl⟩ : ∃ L2 Y, L1 = L2 ++ [Y] := by
        rcases List.eq_nil_or_concat L1 with e | ⟨L2, Y, e⟩
        · rw [e] at hlk; simp at hlk
        · exact ⟨L2, Y, by rw [e, List.concat_eq_append]⟩
      have hlz : (L2 ++ [Y]).length = L2.length + 1 := by simp
      have hL1l : (L2 ++ [Y]).length ≤ L.length := by rw [← hLM]; simp
      obtain ⟨hBt, hYl⟩ := BtI.split.mp hBt
      refine pw_iload C dX10_callFrom_13 rfl ?_
      refine pw_iload_n (i := 2) C dX10_callFrom_15 rfl rfl ?_
      refine pw_icmp_lt (tgt := 54) C (by omega) (by omega) dX10_callFrom_16 (by decide) (fun h_101 => ?_) (fun h_101 => ?_)
      · exfalso; omega
      · refine pw_iload C dX10_callFrom_19 rfl ?_
        refine pw_aload_n (i := 0) C dX10_callFrom_21 rfl rfl (Or.inr ⟨_, rfl⟩) ?_
        refine pw_aload_n (i := 0) C dX10_callFrom_22 rfl rfl (Or.inr ⟨_, rfl⟩) ?_
        refine pw_get (j := 46) C cl_X10 fl_X10_101 (by decide) rfl y0 rfl dX10_callFrom_23 ?_
        refine pw_stk (st' := [.ref (B 46), .ref b, .int (iZ ((1 + szs M : Nat) : Int))]) rfl ?_
        refine pw_iload C dX10_callFrom_26 rfl ?_
        refine pw_iald C y47 ⟨by omega, by omega, by omega⟩ dX10_callFrom_28 ?_
        refine pw_stk (st' := [.int (iZ (fk (fr + ((L2.length : Nat) : Int)))), .ref b, .int (iZ ((1 + szs M : Nat) : Int))]) (by rw [show (fr + (((L2 ++ [Y]).length : Nat) : Int) - 1) = fr + ((L2.length : Nat) : Int) by omega]) ?_
        refine pw_callV (As := [.int (iZ (fk (fr + ((L2.length : Nat) : Int))))]) (st := [.int (iZ ((1 + szs M : Nat) : Int))]) C (m_X10_sizeOf g l y0 hR1 rfl rfl hK1 hYl.1 hYl.2.1) my_X10_sizeOf ml_X10_310 (pw_rec.of C y0 cl_X10.1) rfl ⟨Nat.le_of_ble_eq_true rfl, Nat.le_of_ble_eq_true rfl⟩ ⟨by (try dsimp only); omega, by (try dsimp only); omega⟩ rfl (Nat.le_of_ble_eq_true rfl) dX10_callFrom_29 ?_
        rintro _ _ ⟨rfl, rfl⟩
        have hszm := szm_1 Y
        refine pw_stk (st' := [.int (iZ ((szm Y : Nat) : Int)), .int (iZ ((1 + szs M : Nat) : Int))]) rfl ?_
        refine pw_iadd C dX10_callFrom_32 ?_
        refine pw_istore (lv' := [(0, .ref b), (1, .int (iZ f0)), (2, .int (iZ fr)), (3, .int (iZ v)), (4, .int (iZ (((1 + szs M : Nat) : Int) + ((szm Y : Nat) : Int)))), (5, .int (iZ (fr + (((L2 ++ [Y]).length : Nat) : Int) - 1)))]) C dX10_callFrom_33 (by decide) rfl ?_
        refine pw_aload_n (i := 0) C dX10_callFrom_35 rfl rfl (Or.inr ⟨_, rfl⟩) ?_
        refine pw_aload_n (i := 0) C dX10_callFrom_36 rfl rfl (Or.inr ⟨_, rfl⟩) ?_
        refine pw_get (j := 46) C cl_X10 fl_X10_101 (by decide) rfl y0 rfl dX10_callFrom_37 ?_
        refine pw_stk (st' := [.ref (B 46), .ref b]) rfl ?_
        refine pw_iload C dX10_callFrom_40 rfl ?_
        refine pw_iald C y47 ⟨by omega, by omega, by omega⟩ dX10_callFrom_42 ?_
        refine pw_stk (st' := [.int (iZ (fk (fr + ((L2.length : Nat) : Int)))), .ref b]) (by rw [show (fr + (((L2 ++ [Y]).length : Nat) : Int) - 1) = fr + ((L2.length : Nat) : Int) by omega]) ?_
        refine pw_iload_n (i := 3) C dX10_callFrom_43 rfl rfl ?_
        refine pw_callV (As := [.int (iZ (fk (fr + ((L2.length : Nat) : Int)))), .int (iZ v)]) (st := []) C (rd_pair g l y0 hR1 rfl rfl hYl.1 hv (by omega)) my_X10_pair ml_X10_183 (pw_rec.of C y0 cl_X10.1) rfl ⟨Nat.le_of_ble_eq_true rfl, Nat.le_of_ble_eq_true rfl⟩ ⟨by (try dsimp only); omega, by (try dsimp only); omega⟩ rfl (Nat.le_of_ble_eq_true rfl) dX10_callFrom_44 ?_
        rintro _ w_114 ⟨z_102, t_103, n_104, sN_105, Z_106, rfl, e_107, R_108, x_109, hn_110, hs_111, hZ_112, z_102v, o_113⟩
        have x_1091 := x_109.1
        have R_108n := R_108.n
        have v_115 := Vl.ext hv x_109
        have v_116 := Vl.ext hf1' x_109
        have v_117 := Vl.ext hYl.1 x_109
        have K_118 := RK.ext hK1 x_109
        have z_102r := Vl.rg R_108 z_102v
        refine pw_stk (st' := [.int (iZ z_102)]) rfl ?_
        refine pw_istore_n (i := 3) (lv' := [(0, .ref b), (1, .int (iZ f0)), (2, .int (iZ fr)), (3, .int (iZ z_102)), (4, .int (iZ (((1 + szs M : Nat) : Int) + ((szm Y : Nat) : Int)))), (5, .int (iZ (fr + (((L2 ++ [Y]).length : Nat) : Int) - 1)))]) C dX10_callFrom_47 rfl (by decide) rfl ?_
        refine pw_iinc (lv' := [(0, .ref b), (1, .int (iZ f0)), (2, .int (iZ fr)), (3, .int (iZ z_102)), (4, .int (iZ (((1 + szs M : Nat) : Int) + ((szm Y : Nat) : Int)))), (5, .int (iZ ((fr + (((L2 ++ [Y]).length : Nat) : Int) - 1) + (-1))))]) C dX10_callFrom_48 rfl (by decide) rfl ?_
        refine pw_goto (tgt := 13) C dX10_callFrom_51 (by decide) ?_
        have c_119 := (o_113 1047 (by omega)).trans y47
        rw [show fr + (((L2 ++ [Y]).length : Nat) : Int) - 1 + (-1) = fr + ((L2.length : Nat) : Int) - 1 by omega, show (((1 + szs M : Nat) : Int) + ((szm Y : Nat) : Int)) = ((1 + szs (Y :: M) : Nat) : Int) by simp only [szs]; omega]
        exact ih w_114 t_103 n_104 sN_105 Z_106 z_102 L2 (Y :: M) (by omega) (by rw [← hLM]; simp) R_108 K_118 (hext.tr x_109) z_102v e_107 (by simp only [List.length_cons]; omega) (by omega) (fun j Z hj hz => SZ.mono (t' := t1) (n' := n1) hZ_112 j Z (hj.ext hext) (hSZ j Z hj hz)) (BtI.ext x_109 (SZ.mono (t' := t1) (n' := n1) hZ_112) hBt) (fun k hk => ((o_113 k (by omega))).trans (hf1 k hk))
  refine pw_iconst C dX10_callFrom_0 ?_
  refine pw_istore_n (i := 3) (lv' := [(0, .ref b), (1, .int (iZ f0)), (2, .int (iZ fr)), (3, .int (iZ 0))]) C dX10_callFrom_1 rfl (by decide) rfl ?_
  refine pw_iconst C dX10_callFrom_2 ?_
  refine pw_istore (lv' := [(0, .ref b), (1, .int (iZ f0)), (2, .int (iZ fr)), (3, .int (iZ 0)), (4, .int (iZ 1))]) C dX10_callFrom_3 (by decide) rfl ?_
  refine pw_aload_n (i := 0) C dX10_callFrom_5 rfl rfl (Or.inr ⟨_, rfl⟩) ?_
  refine pw_get (j := 47) C cl_X10 fl_X10_307 (by decide) rfl h0 rfl dX10_callFrom_6 ?_
  refine pw_stk (st' := [.int (iZ (x 47))]) rfl ?_
  refine pw_stk (st' := [.int (iZ (fr + ((L.length : Nat) : Int)))]) (by rw [h47]) ?_
  refine pw_iconst C dX10_callFrom_9 ?_
  refine pw_isub C dX10_callFrom_10 ?_
  refine pw_istore (lv' := [(0, .ref b), (1, .int (iZ f0)), (2, .int (iZ fr)), (3, .int (iZ 0)), (4, .int (iZ 1)), (5, .int (iZ ((fr + ((L.length : Nat) : Int)) - 1)))]) C dX10_callFrom_11 (by decide) rfl ?_
  exact loop L.length w t n sN fZ 0 L [] rfl (by simp) hR hK Ext.rf hK.nil (by rw [← h7, ← h10]; exact h0) (by simp only [List.length_nil]; omega) (Nat.le_refl _) (fun _ _ _ h => h) hBt0 (fun _ _ => rfl)

