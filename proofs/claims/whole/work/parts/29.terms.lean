section
variable {g : pw_P} {p : Program} {l : Launch} {e : Env} {R : Room} {s : State} {m : MethodId} {args : Array Value} {below : List Frame} {meth : Method} {c : Code} {cc : ByteArray} {nL : Nat} {own : String} {Q : State → Prop} {cells slots pc : Nat} {lv : List (Nat × Value)} {st : List Value} {w : pw_W}
theorem pw_getBT (C : pw_C g p s m args meth c cc nL own) {idx : Nat} {host : String} (hlink : Cond.fieldLinkNest own idx RX9 "BASE_TAKES" "[I" host ∈ pw_N) (hd : decode cc pc = .ok (.getstatic idx, 3)) (k : pw_G g p l e R s m args below meth c nL Q cells slots (pc + 3) lv (.ref (g.2.2.2 4) :: st) w) : pw_G g p l e R s m args below meth c nL Q cells slots pc lv st w :=
  fun ls H locs hl hH hS => va_getsN C.1 C.2.1 C.F.2.2.2.2.1 hS C.2.2.2.1 (C.F.1 _ hlink) (fun x hx => hx) hd (k ls H locs hl hH hS)
theorem pw_lenBT (C : pw_C g p s m args meth c cc nL own) (hd : decode cc pc = .ok (.arraylength, 1)) (k : pw_G g p l e R s m args below meth c nL Q cells slots (pc + 1) lv (.int (iZ 17) :: st) w) : pw_G g p l e R s m args below meth c nL Q cells slots pc lv (.ref (g.2.2.2 4) :: st) w :=
  fun ls H locs hl hH hS => va_tlen C.1 C.2.1 C.F.2.2.2.2.2.1 hS (v := iZ 17) (by decide +kernel) hd (k ls H locs hl hH hS)
theorem pw_aldBT (C : pw_C g p s m args meth c cc nL own) {i : Int} (h : 0 ≤ i ∧ i < 17) (hd : decode cc pc = .ok (.iaload, 1)) (k : pw_G g p l e R s m args below meth c nL Q cells slots (pc + 1) lv (.int (iZ (pw_bt i.toNat)) :: st) w) : pw_G g p l e R s m args below meth c nL Q cells slots pc lv (.int (iZ i) :: .ref (g.2.2.2 4) :: st) w := by
  intro ls H locs hl hH hS
  refine va_ti C.1 C.2.1 C.F.2.2.2.2.2.1 hS (iz_in h.1 (by omega) (by omega)) (v := .int (iZ (pw_bt i.toNat))) ?_ hd (k ls H locs hl hH hS)
  rw [iz_clamp ⟨by omega, by omega⟩]
end
/-- the parts of a term, as they are gathered -/
def TmI (g : pw_P) (w : pw_W) (A : Nat → Nat) (t : Int → Ob) (n : Int) (L : List Ob) : Prop :=
  ∃ f : Int → Int, w 21 = (A 21, some (OB 8 [.ref (A 2), .ref (A 16), .ref (A 22), .int (iZ (L.length : Int))])) ∧ w 22 = (A 22, some (AI g 120 f)) ∧ (∀ j, inI (f j)) ∧ VlsI t n f 0 L ∧ L.length ≤ 120
/-- the same, whatever it holds -/
def TmJ (g : pw_P) (w : pw_W) (A : Nat → Nat) : Prop :=
  ∃ (f : Int → Int) (x : Int), w 21 = (A 21, some (OB 8 [.ref (A 2), .ref (A 16), .ref (A 22), .int (iZ x)])) ∧ w 22 = (A 22, some (AI g 120 f)) ∧ (∀ j, inI (f j))
theorem TmI.J {g : pw_P} {w : pw_W} {A : Nat → Nat} {t : Int → Ob} {n : Int} {L : List Ob} (h : TmI g w A t n L) : TmJ g w A := by
  obtain ⟨f, h1, h2, h3, -⟩ := h
  exact ⟨f, _, h1, h2, h3⟩
theorem TmI.same {g : pw_P} {w w' : pw_W} {A : Nat → Nat} {t t' : Int → Ob} {n n' : Int} {L : List Ob} (h : TmI g w A t n L) (hf : ∀ k, (k = 21 ∨ k = 22) → w' k = w k) (he : Ext t n t' n') : TmI g w' A t' n' L := by
  obtain ⟨f, h1, h2, h3, h4, h5⟩ := h
  exact ⟨f, (hf 21 (by omega)).trans h1, (hf 22 (by omega)).trans h2, h3, h4.ext he, h5⟩
theorem TmJ.same {g : pw_P} {w w' : pw_W} {A : Nat → Nat} (h : TmJ g w A) (hf : ∀ k, (k = 21 ∨ k = 22) → w' k = w k) : TmJ g w' A := by
  obtain ⟨f, x, h1, h2, h3⟩ := h
  exact ⟨f, x, (hf 21 (by omega)).trans h1, (hf 22 (by omega)).trans h2, h3⟩
theorem TmI.rec {g : pw_P} {p : Program} {s : State} {m : MethodId} {args : Array Value} {meth : Method} {c : Code} {cc : ByteArray} {nL : Nat} {own : String} {w : pw_W} {A : Nat → Nat} {t : Int → Ob} {n : Int} {L : List Ob} (C : pw_C g p s m args meth c cc nL own) (h : TmI g w A t n L) : pw_rec g s w (A 21) RX8 := by
  obtain ⟨f, h1, -⟩ := h
  exact pw_rec.of C h1 cl_X8.1
theorem TmJ.rec {g : pw_P} {p : Program} {s : State} {m : MethodId} {args : Array Value} {meth : Method} {c : Code} {cc : ByteArray} {nL : Nat} {own : String} {w : pw_W} {A : Nat → Nat} (C : pw_C g p s m args meth c cc nL own) (h : TmJ g w A) : pw_rec g s w (A 21) RX8 := by
  obtain ⟨f, x, h1, -⟩ := h
  exact pw_rec.of C h1 cl_X8.1
def lsO : Ob → List Ob
  | .add a b => a :: lsO b
  | _ => []
def isCl (x : Ob) : Bool := obP x && decide (obCar x ≠ oQuote)
def isPc (x : Ob) : Bool := obN x || decide (x = oNil ∨ x = oT)
theorem lsO_p {R0 : Ob} (h : obP R0 = true) : lsO R0 = obCar R0 :: lsO (obCdr R0) := by cases R0 <;> simp_all [obP, lsO, obCar, obCdr]
theorem lsO_np {R0 : Ob} (h : obP R0 = false) : lsO R0 = [] := by cases R0 <;> simp_all [obP, lsO]
theorem lsO_len : ∀ {R0 : Ob}, 0 ≤ obLen R0 → ((lsO R0).length : Int) = obLen R0 := by
  intro R0
  induction R0 with
  | add a b ha hb =>
    intro h
    have h1 := obLen_cdr (x := .add a b) rfl h
    simp only [obCdr] at h1
    simp only [lsO, List.length_cons]
    have := hb h1.2
    omega
  | _ => intro h; have := (obLen_np (by rfl) h).2; simp only [lsO, List.length_nil]; omega
theorem VlsI.app {t : Int → Ob} {n : Int} {f : Int → Int} : ∀ {i : Int} {L M : List Ob}, VlsI t n f i L → VlsI t n f (i + L.length) M → VlsI t n f i (L ++ M)
  | i, [], M, _, h => by simpa using h
  | i, v :: L, M, h, h' => ⟨h.1, VlsI.app h.2 (by rw [show i + 1 + (L.length : Int) = i + ((v :: L).length : Int) by simp only [List.length_cons]; omega]; exact h')⟩
theorem VlsI.mem {t : Int → Ob} {n : Int} {f : Int → Int} {X : Ob} : ∀ {i : Int} {L : List Ob} (j : Nat), VlsI t n f i L → L[j]? = some X → Vl t n (f (i + j)) X
  | i, v :: L, 0, h, hj => by cases hj; rw [show i + ((0 : Nat) : Int) = i by simp]; exact h.1
  | i, v :: L, j + 1, h, hj => by
    have := VlsI.mem j h.2 (by simpa using hj)
    rw [show i + ((j + 1 : Nat) : Int) = i + 1 + (j : Int) by omega]
    exact this
set_option maxRecDepth 100000 in
set_option maxHeartbeats 4000000 in
/-- isCall -/
theorem m_X8_isCall (g : pw_P) (l : Launch) {w : pw_W} {A : Nat → Nat} {cap : Nat} {t : Int → Ob} {n : Int} (hS : SB g w (A 2) cap t n) (hM : TmJ g w A) {x : Int} {X : Ob} (hx : Vl t n x X) : pw_M g l yX8_isCall cX8_isCall 2 (some .boolean) { frames := 2, cells := 0, slots := 0, locals := 42 } [.ref (A 21), .int (iZ x)] w (fun r w' => w = w' ∧ r = some (.int (iZ (b2i (isCl X))))) := by
  refine pw_M.of (by decide) (Nat.le_of_ble_eq_true rfl) rfl ?_
  intro p e s m args below meth c C hr hn
  obtain ⟨f, cx, k1, k2, k3⟩ := id hM
  have hn0 := hS.n
  refine pw_aload_n (i := 0) C dX8_isCall_0 rfl rfl (Or.inr ⟨_, rfl⟩) ?_
  refine pw_get (j := 0) C cl_X8 fl_X8_15 (by decide) rfl k1 rfl dX8_isCall_1 ?_
  refine pw_iload_n (i := 1) C dX8_isCall_4 rfl rfl ?_
  refine pw_callV (As := [.int (iZ x)]) (st := []) C (vr_isPair hS hx) my_X6_isPair ml_X8_41 (hS.rec C) rfl ⟨Nat.le_of_ble_eq_true rfl, Nat.le_of_ble_eq_true rfl⟩ ⟨Nat.le_of_ble_eq_true rfl, Nat.le_of_ble_eq_true rfl⟩ rfl (Nat.le_of_ble_eq_true rfl) dX8_isCall_5 ?_
  rintro _ _ ⟨rfl, rfl⟩
  refine pw_stk (st' := [.int (iZ (b2i (obP X)))]) rfl ?_
  refine pw_if_eqB (tgt := 27) C dX8_isCall_8 (by decide) (fun h_1 => ?_) (fun h_1 => ?_)
  · refine pw_iconst C dX8_isCall_27 ?_
    exact pw_zret C hr (by decide +kernel) dX8_isCall_28 ⟨rfl, by rw [show isCl X = false from by unfold isCl; rw [h_1]; rfl]; rfl⟩
  · refine pw_aload_n (i := 0) C dX8_isCall_11 rfl rfl (Or.inr ⟨_, rfl⟩) ?_
    refine pw_get (j := 0) C cl_X8 fl_X8_15 (by decide) rfl k1 rfl dX8_isCall_12 ?_
    refine pw_iload_n (i := 1) C dX8_isCall_15 rfl rfl ?_
    refine pw_callV (As := [.int (iZ x)]) (st := []) C (vr_head hS hx) my_X6_head ml_X8_47 (hS.rec C) rfl ⟨Nat.le_of_ble_eq_true rfl, Nat.le_of_ble_eq_true rfl⟩ ⟨Nat.le_of_ble_eq_true rfl, Nat.le_of_ble_eq_true rfl⟩ rfl (Nat.le_of_ble_eq_true rfl) dX8_isCall_16 ?_
    rintro _ _ ⟨rfl, z_2, rfl, z_2v⟩
    have z_2r := Vl.rng hS z_2v
    refine pw_stk (st' := [.int (iZ z_2)]) rfl ?_
    refine pw_iconst C dX8_isCall_19 ?_
    refine pw_icmp_eq (tgt := 27) C (by omega) (by omega) dX8_isCall_20 (by decide) (fun h_3 => ?_) (fun h_3 => ?_)
    · refine pw_iconst C dX8_isCall_27 ?_
      exact pw_zret C hr (by decide +kernel) dX8_isCall_28 ⟨rfl, by rw [show isCl X = false from by unfold isCl; rw [decide_eq_false (fun q => q ((Vl.isquote hS z_2v).mp (by omega))), Bool.and_false]]; rfl⟩
    · refine pw_iconst C dX8_isCall_23 ?_
      refine pw_goto (tgt := 28) C dX8_isCall_24 (by decide) ?_
      exact pw_zret C hr (by decide +kernel) dX8_isCall_28 ⟨rfl, by rw [show isCl X = true from by unfold isCl; rw [h_1, decide_eq_true (p := obCar X ≠ oQuote) (fun q => absurd ((Vl.isquote hS z_2v).mpr q) (by omega))]; rfl]; rfl⟩

set_option maxRecDepth 100000 in
set_option maxHeartbeats 4000000 in
/-- isPlainConstant -/
theorem m_X8_isPlainConstant (g : pw_P) (l : Launch) {w : pw_W} {A : Nat → Nat} {cap : Nat} {t : Int → Ob} {n : Int} (hS : SB g w (A 2) cap t n) (hM : TmJ g w A) {x : Int} {X : Ob} (hx : Vl t n x X) : pw_M g l yX8_isPlainConstant cX8_isPlainConstant 2 (some .boolean) { frames := 1, cells := 0, slots := 0, locals := 21 } [.ref (A 21), .int (iZ x)] w (fun r w' => w = w' ∧ r = some (.int (iZ (b2i (isPc X))))) := by
  refine pw_M.of (by decide) (Nat.le_of_ble_eq_true rfl) rfl ?_
  intro p e s m args below meth c C hr hn
  obtain ⟨f, cx, k1, k2, k3⟩ := id hM
  have hn0 := hS.n
  have hxr := Vl.rng hS hx
  refine pw_aload_n (i := 0) C dX8_isPlainConstant_0 rfl rfl (Or.inr ⟨_, rfl⟩) ?_
  refine pw_get (j := 0) C cl_X8 fl_X8_15 (by decide) rfl k1 rfl dX8_isPlainConstant_1 ?_
  refine pw_iload_n (i := 1) C dX8_isPlainConstant_4 rfl rfl ?_
  refine pw_callV (As := [.int (iZ x)]) (st := []) C (vr_isNatural hS hx) my_X6_isNatural ml_X8_96 (hS.rec C) rfl ⟨Nat.le_of_ble_eq_true rfl, Nat.le_of_ble_eq_true rfl⟩ ⟨Nat.le_of_ble_eq_true rfl, Nat.le_of_ble_eq_true rfl⟩ rfl (Nat.le_of_ble_eq_true rfl) dX8_isPlainConstant_5 ?_
  rintro _ _ ⟨rfl, rfl⟩
  refine pw_stk (st' := [.int (iZ (b2i (obN X)))]) rfl ?_
  refine pw_if_neB (tgt := 20) C dX8_isPlainConstant_8 (by decide) (fun h_1 => ?_) (fun h_1 => ?_)
  · refine pw_iconst C dX8_isPlainConstant_20 ?_
    refine pw_goto (tgt := 25) C dX8_isPlainConstant_21 (by decide) ?_
    exact pw_zret C hr (by decide +kernel) dX8_isPlainConstant_25 ⟨rfl, by rw [show isPc X = true from by unfold isPc; rw [h_1]; rfl]; rfl⟩
  · refine pw_iload_n (i := 1) C dX8_isPlainConstant_11 rfl rfl ?_
    refine pw_if_eq (tgt := 20) C (by omega) dX8_isPlainConstant_12 (by decide) (fun h_2 => ?_) (fun h_2 => ?_)
    · refine pw_iconst C dX8_isPlainConstant_20 ?_
      refine pw_goto (tgt := 25) C dX8_isPlainConstant_21 (by decide) ?_
      exact pw_zret C hr (by decide +kernel) dX8_isPlainConstant_25 ⟨rfl, by rw [show isPc X = true from by unfold isPc; rw [decide_eq_true (Or.inl ((Vl.isnil hS hx).mp (by omega))), Bool.or_true]]; rfl⟩
    · refine pw_iload_n (i := 1) C dX8_isPlainConstant_15 rfl rfl ?_
      refine pw_iconst C dX8_isPlainConstant_16 ?_
      refine pw_icmp_ne (tgt := 24) C (by omega) (by omega) dX8_isPlainConstant_17 (by decide) (fun h_3 => ?_) (fun h_3 => ?_)
      · refine pw_iconst C dX8_isPlainConstant_24 ?_
        exact pw_zret C hr (by decide +kernel) dX8_isPlainConstant_25 ⟨rfl, by rw [show isPc X = false from by unfold isPc; rw [h_1, decide_eq_false (fun q => q.elim (fun q => absurd ((Vl.isnil hS hx).mpr q) (by omega)) (fun q => absurd ((Vl.ist hS hx).mpr q) (by omega)))]; rfl]; rfl⟩
      · refine pw_iconst C dX8_isPlainConstant_20 ?_
        refine pw_goto (tgt := 25) C dX8_isPlainConstant_21 (by decide) ?_
        exact pw_zret C hr (by decide +kernel) dX8_isPlainConstant_25 ⟨rfl, by rw [show isPc X = true from by unfold isPc; rw [decide_eq_true (Or.inr ((Vl.ist hS hx).mp (by omega))), Bool.or_true]]; rfl⟩

theorem arT_none {T : List Dn} {X : Ob} (hk : 16 < kIx X) (h : dLk T X = none) : arT T X = -1 := by unfold arT; rw [if_neg (by omega), h]
theorem arT_some {T : List Dn} {X : Ob} {d : Dn} (hk : 16 < kIx X) (h : dLk T X = some d) : arT T X = obLen d.2.1 := by unfold arT; rw [if_neg (by omega), h]
theorem arT_k {T : List Dn} {X : Ob} {k : Nat} (h : kIx X = k) (hk : k ≤ 16) : arT T X = pw_bt k := by
  unfold arT
  rw [if_pos (by omega), h]
  have key : ∀ j : Fin 17, arB j.val = pw_bt j.val := by decide
  exact key ⟨k, by omega⟩
set_option maxRecDepth 100000 in
set_option maxHeartbeats 4000000 in
/-- takesOf -/
theorem m_X8_takesOf (g : pw_P) (l : Launch) {w : pw_W} {A : Nat → Nat} {cap : Nat} {t : Int → Ob} {n : Int} (hS : SB g w (A 2) cap t n) (hM : TmJ g w A) {D : Nat → Nat} {ds : List Df} {T : List Dn} (hF : FnI g w A D ds) (hD : DsT t n ds T) {x : Int} {X : Ob} (hx : Vl t n x X) : pw_M g l yX8_takesOf cX8_takesOf 3 (some .int) { frames := 1, cells := 0, slots := 0, locals := 23 } [.ref (A 21), .int (iZ x)] w (fun r w' => w = w' ∧ r = some (.int (iZ (arT T X)))) := by
  refine pw_M.of (by decide) (Nat.le_of_ble_eq_true rfl) rfl ?_
  intro p e s m args below meth c C hr hn
  obtain ⟨f, cx, k1, k2, k3⟩ := id hM
  have hn0 := hS.n
  have hxr := Vl.rng hS hx
  have hkx := Vl.kix hS hx
  refine pw_iload_n (i := 1) C dX8_takesOf_0 rfl rfl ?_
  refine pw_if_lt (tgt := 18) C (by omega) dX8_takesOf_1 (by decide) (fun h_1 => ?_) (fun h_1 => ?_)
  · exfalso; omega
  · refine pw_iload_n (i := 1) C dX8_takesOf_4 rfl rfl ?_
    refine pw_getBT C fn_X8_82 dX8_takesOf_5 ?_
    refine pw_lenBT C dX8_takesOf_8 ?_
    refine pw_icmp_ge (tgt := 18) C (by omega) (by omega) dX8_takesOf_9 (by decide) (fun h_2 => ?_) (fun h_2 => ?_)
    · have hkk : 16 < kIx X := by split at hkx <;> omega
      refine pw_aload_n (i := 0) C dX8_takesOf_18 rfl rfl (Or.inr ⟨_, rfl⟩) ?_
      refine pw_get (j := 1) C cl_X8 fl_X8_19 (by decide) rfl k1 rfl dX8_takesOf_19 ?_
      refine pw_iload_n (i := 1) C dX8_takesOf_22 rfl rfl ?_
      refine pw_callV (As := [.int (iZ x)]) (st := []) C (m_X4_find g l hF (x := x) (by omega)) my_X4_find ml_X8_85 (hF.rec C) rfl ⟨Nat.le_of_ble_eq_true rfl, Nat.le_of_ble_eq_true rfl⟩ ⟨Nat.le_of_ble_eq_true rfl, Nat.le_of_ble_eq_true rfl⟩ rfl (Nat.le_of_ble_eq_true rfl) dX8_takesOf_23 ?_
      rintro _ _ ⟨rfl, rfl⟩
      rcases DsT.look hS hx 0 hD with ⟨l1, l2⟩ | ⟨j0, d, D1, l1, l2, l3, l4, l5, l6, l7, l8, l9⟩
      · rw [l1]
        refine pw_stk (st' := [.null]) rfl ?_
        refine pw_astore_n (i := 2) (lv' := [(0, .ref (A 21)), (1, .int (iZ x)), (2, .null)]) C dX8_takesOf_26 rfl (by decide) (Or.inl rfl) rfl ?_
        refine pw_aload_n (i := 2) C dX8_takesOf_27 rfl rfl (Or.inl rfl) ?_
        refine pw_ifnonnullZ C dX8_takesOf_28 ?_
        refine pw_iconst C dX8_takesOf_31 ?_
        refine pw_goto (tgt := 39) C dX8_takesOf_32 (by decide) ?_
        exact pw_iret C hr dX8_takesOf_39 ⟨rfl, by rw [arT_none hkk l2]⟩
      · rw [l1]
        obtain ⟨hd1, hd2⟩ := hF.get l2
        rw [show 0 + j0 = j0 from Nat.zero_add j0]
        refine pw_stk (st' := [.ref (D j0)]) rfl ?_
        refine pw_astore_n (i := 2) (lv' := [(0, .ref (A 21)), (1, .int (iZ x)), (2, .ref (D j0))]) C dX8_takesOf_26 rfl (by decide) (Or.inr ⟨_, rfl⟩) rfl ?_
        refine pw_aload_n (i := 2) C dX8_takesOf_27 rfl rfl (Or.inr ⟨_, rfl⟩) ?_
        refine pw_ifnonnullR (tgt := 35) C dX8_takesOf_28 (by decide) ?_
        refine pw_aload_n (i := 2) C dX8_takesOf_35 rfl rfl (Or.inr ⟨_, rfl⟩) ?_
        refine pw_getN (j := 1) C cl_X2 fn_X8_91 (by decide) rfl hd1 rfl dX8_takesOf_36 ?_
        exact pw_iret C hr dX8_takesOf_39 ⟨rfl, by rw [(arT_some hkk l4).trans l7.symm]⟩
    · refine pw_getBT C fn_X8_82 dX8_takesOf_12 ?_
      refine pw_iload_n (i := 1) C dX8_takesOf_15 rfl rfl ?_
      refine pw_aldBT C ⟨by omega, by omega⟩ dX8_takesOf_16 ?_
      exact pw_iret C hr dX8_takesOf_17 ⟨rfl, by rw [show arT T X = pw_bt x.toNat from arT_k (by omega) (by omega)]⟩

theorem obLen_nn {x : Ob} (h : ¬ x = oNil) (h0 : 0 ≤ obLen x) : 0 < obLen x := by
  cases hb : obP x with
  | true => have := obLen_cdr hb h0; omega
  | false => exact absurd (obLen_np hb h0).1 h
set_option maxRecDepth 100000 in
set_option maxHeartbeats 4000000 in
/-- addTermsOf -/
theorem m_X8_addTermsOf (g : pw_P) (l : Launch) {w : pw_W} {A : Nat → Nat} {cap : Nat} {t : Int → Ob} {n : Int} {L : List Ob} (hS : SB g w (A 2) cap t n) (hM : TmI g w A t n L) {x : Int} {X : Ob} (hx : Vl t n x X) (hl : 0 ≤ obLen (obCdr X)) : pw_M g l yX8_addTermsOf cX8_addTermsOf 3 (some .boolean) { frames := 2, cells := 0, slots := 0, locals := 42 } [.ref (A 21), .int (iZ x)] w (fun r w' => (∀ k, (k < 21 ∨ 22 < k) → w' k = w k) ∧ (if (L.length : Int) + obLen (obCdr X) ≤ 120 then r = some (.int (iZ 1)) ∧ TmI g w' A t n (L ++ lsO (obCdr X)) else r = some (.int (iZ 0)) ∧ TmJ g w' A)) := by
  refine pw_M.of (by decide) (Nat.le_of_ble_eq_true rfl) rfl ?_
  intro p e s m args below meth c C hr hn
  obtain ⟨f, k1, k2, k3, k4, k5⟩ := id hM
  have hn0 := hS.n
  have loop : ∀ (kk : Nat) (L1 : List Ob) (w1 : pw_W) (y : Int) {R0 : Ob}, (obLen R0).toNat = kk → Vl t n y R0 → 0 ≤ obLen R0 → SB g w1 (A 2) cap t n → TmI g w1 A t n L1 → L1 ++ lsO R0 = L ++ lsO (obCdr X) → (L1.length : Int) + obLen R0 = (L.length : Int) + obLen (obCdr X) → (∀ k, (k < 21 ∨ 22 < k) → w1 k = w k) → pw_G g p l e { frames := 2, cells := 0, slots := 0, locals := 42 } s m args below meth c 3 (pw_Q g below (fun r w' => (∀ k, (k < 21 ∨ 22 < k) → w' k = w k) ∧ (if (L.length : Int) + obLen (obCdr X) ≤ 120 then r = some (.int (iZ 1)) ∧ TmI g w' A t n (L ++ lsO (obCdr X)) else r = some (.int (iZ 0)) ∧ TmJ g w' A)) args s { frames := 2, cells := 0, slots := 0, locals := 42 }) 0 0 9 [(0, .ref (A 21)), (1, .int (iZ x)), (2, .int (iZ y))] [] w1 := by
    intro kk
    induction kk with
    | zero =>
      intro L1 w1 y R0 hk hy hlr hS1 hM1 hq hlq hf1
      obtain ⟨f, k1, k2, k3, k4, k5⟩ := id hM1
      have hyr := Vl.rng hS1 hy
      refine pw_aload_n (i := 0) C dX8_addTermsOf_9 rfl rfl (Or.inr ⟨_, rfl⟩) ?_
      refine pw_get (j := 3) C cl_X8 fl_X8_27 (by decide) rfl k1 rfl dX8_addTermsOf_10 ?_
      refine pw_bipush C dX8_addTermsOf_13 (by decide) ?_
      refine pw_icmp_ge (tgt := 68) C (by omega) (by omega) dX8_addTermsOf_15 (by decide) (fun h_301 => ?_) (fun h_301 => ?_)
      · refine pw_iload_n (i := 2) C dX8_addTermsOf_68 rfl rfl ?_
        refine pw_if_ne (tgt := 76) C (by omega) dX8_addTermsOf_69 (by decide) (fun h_302 => ?_) (fun h_302 => ?_)
        · refine pw_iconst C dX8_addTermsOf_76 ?_
          refine pw_zret C hr (by decide +kernel) dX8_addTermsOf_77 ⟨hf1, ?_⟩
          rw [if_neg (by have hny : 0 < obLen R0 := obLen_nn (fun q => absurd ((Vl.isnil hS1 hy).mpr q) (by omega)) hlr; omega)]
          exact ⟨rfl, hM1.J⟩
        · refine pw_iconst C dX8_addTermsOf_72 ?_
          refine pw_goto (tgt := 77) C dX8_addTermsOf_73 (by decide) ?_
          refine pw_zret C hr (by decide +kernel) dX8_addTermsOf_77 ⟨hf1, ?_⟩
          have hnl := (Vl.isnil hS1 hy).mp (by omega)
          subst hnl
          rw [obLen_nil] at hlq
          rw [if_pos (by omega)]
          exact ⟨rfl, by rw [← hq, lsO_np obP_nil, List.append_nil]; exact hM1⟩
      · refine pw_aload_n (i := 0) C dX8_addTermsOf_18 rfl rfl (Or.inr ⟨_, rfl⟩) ?_
        refine pw_get (j := 0) C cl_X8 fl_X8_15 (by decide) rfl k1 rfl dX8_addTermsOf_19 ?_
        refine pw_iload_n (i := 2) C dX8_addTermsOf_22 rfl rfl ?_
        refine pw_callV (As := [.int (iZ y)]) (st := []) C (vr_isPair hS1 hy) my_X6_isPair ml_X8_41 (hS1.rec C) rfl ⟨Nat.le_of_ble_eq_true rfl, Nat.le_of_ble_eq_true rfl⟩ ⟨Nat.le_of_ble_eq_true rfl, Nat.le_of_ble_eq_true rfl⟩ rfl (Nat.le_of_ble_eq_true rfl) dX8_addTermsOf_23 ?_
        rintro _ _ ⟨rfl, rfl⟩
        refine pw_stk (st' := [.int (iZ (b2i (obP R0)))]) rfl ?_
        refine pw_if_eqB (tgt := 68) C dX8_addTermsOf_26 (by decide) (fun h_303 => ?_) (fun h_303 => ?_)
        · have hnp := h_303
          refine pw_iload_n (i := 2) C dX8_addTermsOf_68 rfl rfl ?_
          refine pw_if_ne (tgt := 76) C (by omega) dX8_addTermsOf_69 (by decide) (fun h_304 => ?_) (fun h_304 => ?_)
          · exfalso; exact absurd ((Vl.isnil hS1 hy).mpr (obLen_np hnp hlr).1) (by omega)
          · refine pw_iconst C dX8_addTermsOf_72 ?_
            refine pw_goto (tgt := 77) C dX8_addTermsOf_73 (by decide) ?_
            refine pw_zret C hr (by decide +kernel) dX8_addTermsOf_77 ⟨hf1, ?_⟩
            have hnl := (Vl.isnil hS1 hy).mp (by omega)
            subst hnl
            rw [obLen_nil] at hlq
            rw [if_pos (by omega)]
            exact ⟨rfl, by rw [← hq, lsO_np obP_nil, List.append_nil]; exact hM1⟩
        · have hpr := h_303
          refine pw_aload_n (i := 0) C dX8_addTermsOf_29 rfl rfl (Or.inr ⟨_, rfl⟩) ?_
          refine pw_get (j := 2) C cl_X8 fl_X8_9 (by decide) rfl k1 rfl dX8_addTermsOf_30 ?_
          refine pw_aload_n (i := 0) C dX8_addTermsOf_33 rfl rfl (Or.inr ⟨_, rfl⟩) ?_
          refine pw_get (j := 3) C cl_X8 fl_X8_27 (by decide) rfl k1 rfl dX8_addTermsOf_34 ?_
          refine pw_aload_n (i := 0) C dX8_addTermsOf_37 rfl rfl (Or.inr ⟨_, rfl⟩) ?_
          refine pw_get (j := 0) C cl_X8 fl_X8_15 (by decide) rfl k1 rfl dX8_addTermsOf_38 ?_
          refine pw_iload_n (i := 2) C dX8_addTermsOf_41 rfl rfl ?_
          refine pw_callV (As := [.int (iZ y)]) (st := [.int (iZ ((L1.length : Nat) : Int)), .ref (A 22)]) C (vr_head hS1 hy) my_X6_head ml_X8_47 (hS1.rec C) rfl ⟨Nat.le_of_ble_eq_true rfl, Nat.le_of_ble_eq_true rfl⟩ ⟨Nat.le_of_ble_eq_true rfl, Nat.le_of_ble_eq_true rfl⟩ rfl (Nat.le_of_ble_eq_true rfl) dX8_addTermsOf_42 ?_
          rintro _ _ ⟨rfl, z_305, rfl, z_305v⟩
          have z_305r := Vl.rng hS1 z_305v
          refine pw_stk (st' := [.int (iZ z_305), .int (iZ ((L1.length : Nat) : Int)), .ref (A 22)]) rfl ?_
          refine pw_iast C k2 ⟨by omega, by omega, by omega⟩ dX8_addTermsOf_45 (fun w_308 k_306 o_307 => ?_)
          refine pw_aload_n (i := 0) C dX8_addTermsOf_46 rfl rfl (Or.inr ⟨_, rfl⟩) ?_
          refine pw_dup C dX8_addTermsOf_47 rfl ?_
          have c_309 := (o_307 21 (by omega)).trans k1
          refine pw_get (j := 3) C cl_X8 fl_X8_27 (by decide) rfl c_309 rfl dX8_addTermsOf_48 ?_
          refine pw_iconst C dX8_addTermsOf_51 ?_
          refine pw_iadd C dX8_addTermsOf_52 ?_
          refine pw_put (j := 3) C cl_X8 fl_X8_27 (by decide) rfl rfl rfl rfl rfl c_309 (Nat.le_of_ble_eq_true rfl) dX8_addTermsOf_53 (fun w_312 k_310 o_311 => ?_)
          have k_313 : w_312 21 = ((A 21), some (OB 8 [.ref (A 2), .ref (A 16), .ref (A 22), .int (iZ (((L1.length : Nat) : Int) + 1))])) := k_310
          refine pw_aload_n (i := 0) C dX8_addTermsOf_56 rfl rfl (Or.inr ⟨_, rfl⟩) ?_
          have S_314 := hS1.same (w' := w_312) (fun k h1 h2 => (o_311 k (by omega)).trans (o_307 k (by omega)))
          refine pw_get (j := 0) C cl_X8 fl_X8_15 (by decide) rfl k_313 rfl dX8_addTermsOf_57 ?_
          refine pw_iload_n (i := 2) C dX8_addTermsOf_60 rfl rfl ?_
          refine pw_callV (As := [.int (iZ y)]) (st := []) C (vr_tail S_314 hy) my_X6_tail ml_X8_54 (S_314.rec C) rfl ⟨Nat.le_of_ble_eq_true rfl, Nat.le_of_ble_eq_true rfl⟩ ⟨Nat.le_of_ble_eq_true rfl, Nat.le_of_ble_eq_true rfl⟩ rfl (Nat.le_of_ble_eq_true rfl) dX8_addTermsOf_61 ?_
          rintro _ _ ⟨rfl, z_315, rfl, z_315v⟩
          have z_315r := Vl.rng S_314 z_315v
          refine pw_stk (st' := [.int (iZ z_315)]) rfl ?_
          refine pw_istore_n (i := 2) (lv' := [(0, .ref (A 21)), (1, .int (iZ x)), (2, .int (iZ z_315))]) C dX8_addTermsOf_64 rfl (by decide) rfl ?_
          refine pw_goto (tgt := 9) C dX8_addTermsOf_65 (by decide) ?_
          exfalso; have := obLen_cdr hpr hlr; omega
    | succ kk ih =>
      intro L1 w1 y R0 hk hy hlr hS1 hM1 hq hlq hf1
      obtain ⟨f, k1, k2, k3, k4, k5⟩ := id hM1
      have hyr := Vl.rng hS1 hy
      refine pw_aload_n (i := 0) C dX8_addTermsOf_9 rfl rfl (Or.inr ⟨_, rfl⟩) ?_
      refine pw_get (j := 3) C cl_X8 fl_X8_27 (by decide) rfl k1 rfl dX8_addTermsOf_10 ?_
      refine pw_bipush C dX8_addTermsOf_13 (by decide) ?_
      refine pw_icmp_ge (tgt := 68) C (by omega) (by omega) dX8_addTermsOf_15 (by decide) (fun h_11 => ?_) (fun h_11 => ?_)
      · refine pw_iload_n (i := 2) C dX8_addTermsOf_68 rfl rfl ?_
        refine pw_if_ne (tgt := 76) C (by omega) dX8_addTermsOf_69 (by decide) (fun h_12 => ?_) (fun h_12 => ?_)
        · refine pw_iconst C dX8_addTermsOf_76 ?_
          refine pw_zret C hr (by decide +kernel) dX8_addTermsOf_77 ⟨hf1, ?_⟩
          rw [if_neg (by have hny : 0 < obLen R0 := obLen_nn (fun q => absurd ((Vl.isnil hS1 hy).mpr q) (by omega)) hlr; omega)]
          exact ⟨rfl, hM1.J⟩
        · refine pw_iconst C dX8_addTermsOf_72 ?_
          refine pw_goto (tgt := 77) C dX8_addTermsOf_73 (by decide) ?_
          refine pw_zret C hr (by decide +kernel) dX8_addTermsOf_77 ⟨hf1, ?_⟩
          have hnl := (Vl.isnil hS1 hy).mp (by omega)
          subst hnl
          rw [obLen_nil] at hlq
          rw [if_pos (by omega)]
          exact ⟨rfl, by rw [← hq, lsO_np obP_nil, List.append_nil]; exact hM1⟩
      · refine pw_aload_n (i := 0) C dX8_addTermsOf_18 rfl rfl (Or.inr ⟨_, rfl⟩) ?_
        refine pw_get (j := 0) C cl_X8 fl_X8_15 (by decide) rfl k1 rfl dX8_addTermsOf_19 ?_
        refine pw_iload_n (i := 2) C dX8_addTermsOf_22 rfl rfl ?_
        refine pw_callV (As := [.int (iZ y)]) (st := []) C (vr_isPair hS1 hy) my_X6_isPair ml_X8_41 (hS1.rec C) rfl ⟨Nat.le_of_ble_eq_true rfl, Nat.le_of_ble_eq_true rfl⟩ ⟨Nat.le_of_ble_eq_true rfl, Nat.le_of_ble_eq_true rfl⟩ rfl (Nat.le_of_ble_eq_true rfl) dX8_addTermsOf_23 ?_
        rintro _ _ ⟨rfl, rfl⟩
        refine pw_stk (st' := [.int (iZ (b2i (obP R0)))]) rfl ?_
        refine pw_if_eqB (tgt := 68) C dX8_addTermsOf_26 (by decide) (fun h_13 => ?_) (fun h_13 => ?_)
        · have hnp := h_13
          refine pw_iload_n (i := 2) C dX8_addTermsOf_68 rfl rfl ?_
          refine pw_if_ne (tgt := 76) C (by omega) dX8_addTermsOf_69 (by decide) (fun h_14 => ?_) (fun h_14 => ?_)
          · exfalso; exact absurd ((Vl.isnil hS1 hy).mpr (obLen_np hnp hlr).1) (by omega)
          · refine pw_iconst C dX8_addTermsOf_72 ?_
            refine pw_goto (tgt := 77) C dX8_addTermsOf_73 (by decide) ?_
            refine pw_zret C hr (by decide +kernel) dX8_addTermsOf_77 ⟨hf1, ?_⟩
            have hnl := (Vl.isnil hS1 hy).mp (by omega)
            subst hnl
            rw [obLen_nil] at hlq
            rw [if_pos (by omega)]
            exact ⟨rfl, by rw [← hq, lsO_np obP_nil, List.append_nil]; exact hM1⟩
        · have hpr := h_13
          refine pw_aload_n (i := 0) C dX8_addTermsOf_29 rfl rfl (Or.inr ⟨_, rfl⟩) ?_
          refine pw_get (j := 2) C cl_X8 fl_X8_9 (by decide) rfl k1 rfl dX8_addTermsOf_30 ?_
          refine pw_aload_n (i := 0) C dX8_addTermsOf_33 rfl rfl (Or.inr ⟨_, rfl⟩) ?_
          refine pw_get (j := 3) C cl_X8 fl_X8_27 (by decide) rfl k1 rfl dX8_addTermsOf_34 ?_
          refine pw_aload_n (i := 0) C dX8_addTermsOf_37 rfl rfl (Or.inr ⟨_, rfl⟩) ?_
          refine pw_get (j := 0) C cl_X8 fl_X8_15 (by decide) rfl k1 rfl dX8_addTermsOf_38 ?_
          refine pw_iload_n (i := 2) C dX8_addTermsOf_41 rfl rfl ?_
          refine pw_callV (As := [.int (iZ y)]) (st := [.int (iZ ((L1.length : Nat) : Int)), .ref (A 22)]) C (vr_head hS1 hy) my_X6_head ml_X8_47 (hS1.rec C) rfl ⟨Nat.le_of_ble_eq_true rfl, Nat.le_of_ble_eq_true rfl⟩ ⟨Nat.le_of_ble_eq_true rfl, Nat.le_of_ble_eq_true rfl⟩ rfl (Nat.le_of_ble_eq_true rfl) dX8_addTermsOf_42 ?_
          rintro _ _ ⟨rfl, z_15, rfl, z_15v⟩
          have z_15r := Vl.rng hS1 z_15v
          refine pw_stk (st' := [.int (iZ z_15), .int (iZ ((L1.length : Nat) : Int)), .ref (A 22)]) rfl ?_
          refine pw_iast C k2 ⟨by omega, by omega, by omega⟩ dX8_addTermsOf_45 (fun w_18 k_16 o_17 => ?_)
          refine pw_aload_n (i := 0) C dX8_addTermsOf_46 rfl rfl (Or.inr ⟨_, rfl⟩) ?_
          refine pw_dup C dX8_addTermsOf_47 rfl ?_
          have c_19 := (o_17 21 (by omega)).trans k1
          refine pw_get (j := 3) C cl_X8 fl_X8_27 (by decide) rfl c_19 rfl dX8_addTermsOf_48 ?_
          refine pw_iconst C dX8_addTermsOf_51 ?_
          refine pw_iadd C dX8_addTermsOf_52 ?_
          refine pw_put (j := 3) C cl_X8 fl_X8_27 (by decide) rfl rfl rfl rfl rfl c_19 (Nat.le_of_ble_eq_true rfl) dX8_addTermsOf_53 (fun w_22 k_20 o_21 => ?_)
          have k_23 : w_22 21 = ((A 21), some (OB 8 [.ref (A 2), .ref (A 16), .ref (A 22), .int (iZ (((L1.length : Nat) : Int) + 1))])) := k_20
          refine pw_aload_n (i := 0) C dX8_addTermsOf_56 rfl rfl (Or.inr ⟨_, rfl⟩) ?_
          have S_24 := hS1.same (w' := w_22) (fun k h1 h2 => (o_21 k (by omega)).trans (o_17 k (by omega)))
          refine pw_get (j := 0) C cl_X8 fl_X8_15 (by decide) rfl k_23 rfl dX8_addTermsOf_57 ?_
          refine pw_iload_n (i := 2) C dX8_addTermsOf_60 rfl rfl ?_
          refine pw_callV (As := [.int (iZ y)]) (st := []) C (vr_tail S_24 hy) my_X6_tail ml_X8_54 (S_24.rec C) rfl ⟨Nat.le_of_ble_eq_true rfl, Nat.le_of_ble_eq_true rfl⟩ ⟨Nat.le_of_ble_eq_true rfl, Nat.le_of_ble_eq_true rfl⟩ rfl (Nat.le_of_ble_eq_true rfl) dX8_addTermsOf_61 ?_
          rintro _ _ ⟨rfl, z_25, rfl, z_25v⟩
          have z_25r := Vl.rng S_24 z_25v
          refine pw_stk (st' := [.int (iZ z_25)]) rfl ?_
          refine pw_istore_n (i := 2) (lv' := [(0, .ref (A 21)), (1, .int (iZ x)), (2, .int (iZ z_25))]) C dX8_addTermsOf_64 rfl (by decide) rfl ?_
          refine pw_goto (tgt := 9) C dX8_addTermsOf_65 (by decide) ?_
          have c_26 := (o_21 22 (by omega)).trans k_16
          have hM2 : TmI g w_22 A t n (L1 ++ [obCar R0]) := ⟨_, by rw [k_23]; simp, c_26, upz_inI k3 (by omega), by have := VlsI.add z_15v k4; rw [Int.zero_add] at this; exact this, by simp; omega⟩
          exact ih _ w_22 _ (by have := obLen_cdr hpr hlr; omega) z_25v (obLen_cdr hpr hlr).2 (hS1.same (fun k h1 h2 => (o_21 k (by omega)).trans (o_17 k (by omega)))) hM2 (by rw [← hq, lsO_p hpr]; simp) (by have := (obLen_cdr hpr hlr).1; simp only [List.length_append, List.length_singleton]; omega) (fun k hk => ((o_21 k (by omega)).trans (o_17 k (by omega))).trans (hf1 k hk))
  refine pw_aload_n (i := 0) C dX8_addTermsOf_0 rfl rfl (Or.inr ⟨_, rfl⟩) ?_
  refine pw_get (j := 0) C cl_X8 fl_X8_15 (by decide) rfl k1 rfl dX8_addTermsOf_1 ?_
  refine pw_iload_n (i := 1) C dX8_addTermsOf_4 rfl rfl ?_
  refine pw_callV (As := [.int (iZ x)]) (st := []) C (vr_tail hS hx) my_X6_tail ml_X8_54 (hS.rec C) rfl ⟨Nat.le_of_ble_eq_true rfl, Nat.le_of_ble_eq_true rfl⟩ ⟨Nat.le_of_ble_eq_true rfl, Nat.le_of_ble_eq_true rfl⟩ rfl (Nat.le_of_ble_eq_true rfl) dX8_addTermsOf_5 ?_
  rintro _ _ ⟨rfl, z_201, rfl, z_201v⟩
  have z_201r := Vl.rng hS z_201v
  refine pw_stk (st' := [.int (iZ z_201)]) rfl ?_
  refine pw_istore_n (i := 2) (lv' := [(0, .ref (A 21)), (1, .int (iZ x)), (2, .int (iZ z_201))]) C dX8_addTermsOf_8 rfl (by decide) rfl ?_
  exact loop (obLen (obCdr X)).toNat L w _ (by omega) z_201v hl hS hM rfl rfl (fun _ _ => rfl)

