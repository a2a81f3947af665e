def WkI (t : Int → Ob) (n : Int) (f : Int → Int) : List Ob → Prop
  | [] => True
  | Y :: S => Vl t n (f ((S.length : Nat) : Int)) Y ∧ WkI t n f S
theorem WkI.up {t : Int → Ob} {n k v : Int} {f : Int → Int} : ∀ {S : List Ob}, WkI t n f S → ((S.length : Nat) : Int) ≤ k → WkI t n (upz f k v) S
  | [], _, _ => trivial
  | Y :: S, h, hk => by
    simp only [List.length_cons] at hk
    exact ⟨by rw [upz_ne _ _ (by omega)]; exact h.1, WkI.up h.2 (by omega)⟩
theorem lsO_cdN : ∀ (j : Nat) (R : Ob), j < (lsO R).length → obP (cdN j R) = true ∧ (lsO R)[j]? = some (obCar (cdN j R))
  | 0, R, h => by
    cases R with
    | add a b => exact ⟨rfl, rfl⟩
    | _ => simp [lsO] at h
  | j + 1, R, h => by
    cases R with
    | add a b =>
      have := lsO_cdN j b (by simp only [lsO, List.length_cons] at h; omega)
      exact ⟨this.1, by simp only [lsO, List.getElem?_cons_succ]; exact this.2⟩
    | _ => simp [lsO] at h
theorem drop_one {L : List Ob} {k : Nat} {Y : Ob} (h : L[k]? = some Y) : L.drop k = Y :: L.drop (k + 1) := by
  obtain ⟨hk, rfl⟩ := List.getElem?_eq_some_iff.mp h
  exact List.drop_eq_getElem_cons hk
set_option maxRecDepth 100000 in
set_option maxHeartbeats 4000000 in
/-- walkTo -/
theorem m_X10_walkTo (g : pw_P) (l : Launch) {w : pw_W} {b : Nat} {B : Nat → Nat} {x : Nat → Int} (h0 : w 1000 = (b, some (mdE B x))) {v c0 : Int} {fw : Int → Int} (h49 : x 49 = v) (f1 : w 1049 = (B 48, some (AI g 400 fw))) (f2 : ∀ j, inI (fw j)) (hv : 0 ≤ v ∧ v < 400) : pw_M g l yX10_walkTo cX10_walkTo 2 none { frames := 0, cells := 0, slots := 0, locals := 0 } [.ref b, .int (iZ c0)] w (fun r w' => r = none ∧ w' 1000 = (b, some (mdE B (va_up x 49 (v + 1)))) ∧ w' 1049 = (B 48, some (AI g 400 (upz fw v c0))) ∧ ∀ k, (k ≠ 1000 ∧ k ≠ 1049) → w' k = w k) := by
  refine pw_M.of (by decide) (Nat.le_of_ble_eq_true rfl) rfl ?_
  intro p e s m args below meth c C hr hn
  refine pw_aload_n (i := 0) C dX10_walkTo_0 rfl rfl (Or.inr ⟨_, rfl⟩) ?_
  refine pw_get (j := 48) C cl_X10 fl_X10_104 (by decide) rfl h0 rfl dX10_walkTo_1 ?_
  refine pw_stk (st' := [.ref (B 48)]) rfl ?_
  refine pw_aload_n (i := 0) C dX10_walkTo_4 rfl rfl (Or.inr ⟨_, rfl⟩) ?_
  refine pw_get (j := 49) C cl_X10 fl_X10_340 (by decide) rfl h0 rfl dX10_walkTo_5 ?_
  refine pw_stk (st' := [.int (iZ (x 49)), .ref (B 48)]) rfl ?_
  refine pw_stk (st' := [.int (iZ v), .ref (B 48)]) (by rw [h49]) ?_
  refine pw_iload_n (i := 1) C dX10_walkTo_8 rfl rfl ?_
  refine pw_iast C f1 ⟨by omega, by omega, by omega⟩ dX10_walkTo_9 (fun w_3 k_1 o_2 => ?_)
  refine pw_aload_n (i := 0) C dX10_walkTo_10 rfl rfl (Or.inr ⟨_, rfl⟩) ?_
  refine pw_dup C dX10_walkTo_11 rfl ?_
  have c_4 := (o_2 1000 (by omega)).trans h0
  refine pw_get (j := 49) C cl_X10 fl_X10_340 (by decide) rfl c_4 rfl dX10_walkTo_12 ?_
  refine pw_stk (st' := [.int (iZ (x 49)), .ref b]) rfl ?_
  refine pw_stk (st' := [.int (iZ v), .ref b]) (by rw [h49]) ?_
  refine pw_iconst C dX10_walkTo_15 ?_
  refine pw_iadd C dX10_walkTo_16 ?_
  refine pw_put (j := 49) C cl_X10 fl_X10_340 (by decide) rfl rfl rfl rfl rfl c_4 (Nat.le_of_ble_eq_true rfl) dX10_walkTo_17 (fun w_7 k_5 o_6 => ?_)
  have k_8 : w_7 1000 = (b, some (mdE B (va_up x 49 (v + 1)))) := k_5
  have c_9 := (o_6 1049 (by omega)).trans k_1
  exact pw_vret C hr dX10_walkTo_20 ⟨rfl, k_8, c_9, fun k hk => (o_6 k (by omega)).trans (o_2 k (by omega))⟩

set_option maxRecDepth 100000 in
set_option maxHeartbeats 4000000 in
/-- walkOn -/
theorem m_X10_walkOn (g : pw_P) (l : Launch) {w : pw_W} {b : Nat} {B : Nat → Nat} {x : Nat → Int} (h0 : w 1000 = (b, some (mdE B x))) {t : Int → Ob} {n : Int} {sN : Nat} {fZ : Int → Int} (hR : RS g w B t n sN fZ) (h7 : x 7 = n) (h10 : x 10 = ((sN : Nat) : Int)) (hK : RK t n) {Y : Ob} {S1 : List Ob} {fw : Int → Int} (h49 : x 49 = (((Y :: S1).length : Nat) : Int)) (f1 : w 1049 = (B 48, some (AI g 400 fw))) (f2 : ∀ j, inI (fw j)) (hWk : WkI t n fw (Y :: S1)) (hwf : isCl Y = true → 0 ≤ obLen (obCdr Y) ∧ obP Y = true) (hsz : S1.length + (lsO (obCdr Y)).length < 400) : pw_M g l yX10_walkOn cX10_walkOn 4 (some .int) { frames := 2, cells := 0, slots := 0, locals := 44 } [.ref b] w (fun r w' => ∃ (z : Int) (fw' : Int → Int), r = some (.int (iZ z)) ∧ Vl t n z Y ∧ w' 1000 = (b, some (mdE B (va_up x 49 (((chO Y ++ S1).length : Nat) : Int)))) ∧ w' 1049 = (B 48, some (AI g 400 fw')) ∧ (∀ j, inI (fw' j)) ∧ WkI t n fw' (chO Y ++ S1) ∧ ∀ k, (k ≠ 1000 ∧ k ≠ 1049) → w' k = w k) := by
  refine pw_M.of (by decide) (Nat.le_of_ble_eq_true rfl) rfl ?_
  intro p e s m args below meth c C hr hn
  obtain ⟨fL, fR, fH, fV, l0, l1, l4, l5, ⟨m0, m1, m4, m5⟩, hln⟩ := RS.lens hR
  have hRn := hR.n
  have hll : (Y :: S1).length = S1.length + 1 := rfl
  have hYr := Vl.rg hR hWk.1
  refine pw_aload_n (i := 0) C dX10_walkOn_0 rfl rfl (Or.inr ⟨_, rfl⟩) ?_
  refine pw_dup C dX10_walkOn_1 rfl ?_
  refine pw_get (j := 49) C cl_X10 fl_X10_340 (by decide) rfl h0 rfl dX10_walkOn_2 ?_
  refine pw_stk (st' := [.int (iZ (x 49)), .ref b]) rfl ?_
  refine pw_stk (st' := [.int (iZ (((Y :: S1).length : Nat) : Int)), .ref b]) (by rw [h49]) ?_
  refine pw_iconst C dX10_walkOn_5 ?_
  refine pw_isub C dX10_walkOn_6 ?_
  refine pw_stk (st' := [.int (iZ ((S1.length : Nat) : Int)), .ref b]) (by rw [show (((Y :: S1).length : Nat) : Int) - 1 = ((S1.length : Nat) : Int) by omega]) ?_
  refine pw_put (j := 49) C cl_X10 fl_X10_340 (by decide) rfl rfl rfl rfl rfl h0 (Nat.le_of_ble_eq_true rfl) dX10_walkOn_7 (fun w_303 k_301 o_302 => ?_)
  have k_304 : w_303 1000 = (b, some (mdE B (va_up x 49 ((S1.length : Nat) : Int)))) := k_301
  refine pw_aload_n (i := 0) C dX10_walkOn_10 rfl rfl (Or.inr ⟨_, rfl⟩) ?_
  refine pw_get (j := 48) C cl_X10 fl_X10_104 (by decide) rfl k_304 rfl dX10_walkOn_11 ?_
  refine pw_stk (st' := [.ref (B 48)]) rfl ?_
  refine pw_aload_n (i := 0) C dX10_walkOn_14 rfl rfl (Or.inr ⟨_, rfl⟩) ?_
  refine pw_get (j := 49) C cl_X10 fl_X10_340 (by decide) rfl k_304 rfl dX10_walkOn_15 ?_
  refine pw_stk (st' := [.int (iZ ((S1.length : Nat) : Int)), .ref (B 48)]) rfl ?_
  have c_305 := (o_302 1049 (by omega)).trans f1
  have g_306 := f2 ((S1.length : Nat) : Int)
  refine pw_iald C c_305 ⟨by omega, by omega, by omega⟩ dX10_walkOn_18 ?_
  refine pw_istore_n (i := 1) (lv' := [(0, .ref b), (1, .int (iZ (fw ((S1.length : Nat) : Int))))]) C dX10_walkOn_19 rfl (by decide) rfl ?_
  refine pw_aload_n (i := 0) C dX10_walkOn_20 rfl rfl (Or.inr ⟨_, rfl⟩) ?_
  refine pw_iload_n (i := 1) C dX10_walkOn_21 rfl rfl ?_
  have R_307 := hR.same (w' := w_303) (fun k hk => (o_302 k (by omega)))
  refine pw_callV (As := [.int (iZ (fw ((S1.length : Nat) : Int)))]) (st := []) C (m_X10_isCall g l k_304 R_307 h7 h10 hK hWk.1) my_X10_isCall ml_X10_304 (pw_rec.of C k_304 cl_X10.1) rfl ⟨Nat.le_of_ble_eq_true rfl, Nat.le_of_ble_eq_true rfl⟩ ⟨by (try dsimp only); omega, by (try dsimp only); omega⟩ rfl (Nat.le_of_ble_eq_true rfl) dX10_walkOn_22 ?_
  rintro _ _ ⟨rfl, rfl⟩
  refine pw_stk (st' := [.int (iZ (b2i (isCl Y)))]) rfl ?_
  refine pw_if_neB (tgt := 30) C dX10_walkOn_25 (by decide) (fun h_308 => ?_) (fun h_308 => ?_)
  · have hic := h_308
    have hYv := hWk.1
    have hcc := (hln _ _ hWk.1).1 (hwf hic).2
    have hrr2 := Vl.rg hR hcc.2
    refine pw_aload_n (i := 0) C dX10_walkOn_30 rfl rfl (Or.inr ⟨_, rfl⟩) ?_
    refine pw_aload_n (i := 0) C dX10_walkOn_31 rfl rfl (Or.inr ⟨_, rfl⟩) ?_
    refine pw_get (j := 1) C cl_X10 fl_X10_14 (by decide) rfl k_304 rfl dX10_walkOn_32 ?_
    refine pw_stk (st' := [.ref (B 1), .ref b]) rfl ?_
    refine pw_iload_n (i := 1) C dX10_walkOn_35 rfl rfl ?_
    have c_309 := (o_302 1002 (by omega)).trans l1
    have g_310 := m1 (fw ((S1.length : Nat) : Int))
    refine pw_iald C c_309 ⟨by omega, by omega, by omega⟩ dX10_walkOn_36 ?_
    refine pw_callV (As := [.int (iZ (fR (fw ((S1.length : Nat) : Int))))]) (st := []) C (m_X10_lengthOf g l k_304 R_307 h7 h10 hK hcc.2) my_X10_lengthOf ml_X10_325 (pw_rec.of C k_304 cl_X10.1) rfl ⟨Nat.le_of_ble_eq_true rfl, Nat.le_of_ble_eq_true rfl⟩ ⟨by (try dsimp only); omega, by (try dsimp only); omega⟩ rfl (Nat.le_of_ble_eq_true rfl) dX10_walkOn_37 ?_
    rintro _ _ ⟨rfl, rfl⟩
    refine pw_stk (st' := [.int (iZ (obLen (obCdr Y)))]) rfl ?_
    have g_311 := obLen_rg R_307 hcc.2
    refine pw_istore_n (i := 2) (lv' := [(0, .ref b), (1, .int (iZ (fw ((S1.length : Nat) : Int)))), (2, .int (iZ (obLen (obCdr Y))))]) C dX10_walkOn_40 rfl (by decide) rfl ?_
    refine pw_iload_n (i := 2) C dX10_walkOn_41 rfl rfl ?_
    refine pw_istore_n (i := 3) (lv' := [(0, .ref b), (1, .int (iZ (fw ((S1.length : Nat) : Int)))), (2, .int (iZ (obLen (obCdr Y)))), (3, .int (iZ (obLen (obCdr Y))))]) C dX10_walkOn_42 rfl (by decide) rfl ?_
    obtain ⟨hll, hlp⟩ := hwf hic
    have hlen := lsO_len (R0 := obCdr Y) hll
    have hcl : (chO Y).length = (lsO (obCdr Y)).length := by unfold chO; rw [if_pos hic]
    have loop : ∀ (k : Nat) (w1 : pw_W) (fw1 : Int → Int), k ≤ (lsO (obCdr Y)).length → w1 1000 = (b, some (mdE B (va_up x 49 ((((lsO (obCdr Y)).drop k ++ S1).length : Nat) : Int)))) → w1 1049 = (B 48, some (AI g 400 fw1)) → (∀ j, inI (fw1 j)) → WkI t n fw1 ((lsO (obCdr Y)).drop k ++ S1) → (∀ q, (q ≠ 1000 ∧ q ≠ 1049) → w1 q = w q) → pw_G g p l e { frames := 2, cells := 0, slots := 0, locals := 44 } s m args below meth c 4 (pw_Q g below (fun r w' => ∃ (z : Int) (fw' : Int → Int), r = some (.int (iZ z)) ∧ Vl t n z Y ∧ w' 1000 = (b, some (mdE B (va_up x 49 (((chO Y ++ S1).length : Nat) : Int)))) ∧ w' 1049 = (B 48, some (AI g 400 fw')) ∧ (∀ j, inI (fw' j)) ∧ WkI t n fw' (chO Y ++ S1) ∧ ∀ k, (k ≠ 1000 ∧ k ≠ 1049) → w' k = w k) args s { frames := 2, cells := 0, slots := 0, locals := 44 }) 0 0 43 [(0, .ref b), (1, .int (iZ (fw ((S1.length : Nat) : Int)))), (2, .int (iZ (obLen (obCdr Y)))), (3, .int (iZ ((k : Nat) : Int)))] [] w1 := by
      intro k
      induction k with
      | zero =>
        intro w1 fw1 hk y0 y49 g49 hW hf1
        refine pw_iload_n (i := 3) C dX10_walkOn_43 rfl rfl ?_
        refine pw_iconst C dX10_walkOn_44 ?_
        refine pw_icmp_lt (tgt := 64) C (by omega) (by omega) dX10_walkOn_45 (by decide) (fun h_11 => ?_) (fun h_11 => ?_)
        · refine pw_iload_n (i := 1) C dX10_walkOn_64 rfl rfl ?_
          skip
          skip
          have hch : chO Y = (lsO (obCdr Y)) := by unfold chO; rw [if_pos hic]
          exact pw_iret C hr dX10_walkOn_65 ⟨_, fw1, rfl, hYv, by rw [hch]; exact y0, y49, g49, by rw [hch]; exact hW, hf1⟩
        · exfalso; omega
      | succ k ih =>
        intro w1 fw1 hk y0 y49 g49 hW hf1
        have hdrl : ((lsO (obCdr Y)).drop (k + 1) ++ S1).length ≤ (lsO (obCdr Y)).length + S1.length := by simp
        have hdrl2 : ((lsO (obCdr Y)).drop (k + 1) ++ S1).length + 1 ≤ (lsO (obCdr Y)).length + S1.length := by simp; omega
        have hcdp : ∀ j, j ≤ k + 1 → obP (cdN j Y) = true := by
          intro j hj
          cases j with
          | zero => exact hlp
          | succ j => exact (lsO_cdN j (obCdr Y) (by omega)).1
        refine pw_iload_n (i := 3) C dX10_walkOn_43 rfl rfl ?_
        refine pw_iconst C dX10_walkOn_44 ?_
        refine pw_icmp_lt (tgt := 64) C (by omega) (by omega) dX10_walkOn_45 (by decide) (fun h_51 => ?_) (fun h_51 => ?_)
        · exfalso; omega
        · refine pw_aload_n (i := 0) C dX10_walkOn_48 rfl rfl (Or.inr ⟨_, rfl⟩) ?_
          refine pw_aload_n (i := 0) C dX10_walkOn_49 rfl rfl (Or.inr ⟨_, rfl⟩) ?_
          refine pw_iload_n (i := 1) C dX10_walkOn_50 rfl rfl ?_
          refine pw_iload_n (i := 3) C dX10_walkOn_51 rfl rfl ?_
          have R_52 := hR.same (w' := w1) (fun k hk => (hf1 k (by omega)))
          refine pw_callV (As := [.int (iZ (fw ((S1.length : Nat) : Int))), .int (iZ (((k + 1 : Nat)) : Int))]) (st := [.ref b]) C (m_X10_nth g l y0 R_52 h7 h10 hK hYv (i := k + 1) (by omega) hcdp) my_X10_nth ml_X10_292 (pw_rec.of C y0 cl_X10.1) rfl ⟨Nat.le_of_ble_eq_true rfl, Nat.le_of_ble_eq_true rfl⟩ ⟨by (try dsimp only); omega, by (try dsimp only); omega⟩ rfl (Nat.le_of_ble_eq_true rfl) dX10_walkOn_52 ?_
          rintro _ _ ⟨rfl, z_53, rfl, z_53v⟩
          have z_53r := Vl.rg hR z_53v
          refine pw_stk (st' := [.int (iZ z_53), .ref b]) rfl ?_
          refine pw_callV (As := [.int (iZ z_53)]) (st := []) C (m_X10_walkTo g l y0 (v := ((((lsO (obCdr Y)).drop (k + 1) ++ S1).length : Nat) : Int)) rfl y49 g49 (c0 := z_53) (by omega)) my_X10_walkTo ml_X10_343 (pw_rec.of C y0 cl_X10.1) rfl ⟨Nat.le_of_ble_eq_true rfl, Nat.le_of_ble_eq_true rfl⟩ ⟨by (try dsimp only); omega, by (try dsimp only); omega⟩ rfl (Nat.le_of_ble_eq_true rfl) dX10_walkOn_55 ?_
          rintro _ w4 ⟨rfl, e40, e41, ho4⟩
          refine pw_stk (st' := []) rfl ?_
          refine pw_iinc (lv' := [(0, .ref b), (1, .int (iZ (fw ((S1.length : Nat) : Int)))), (2, .int (iZ (obLen (obCdr Y)))), (3, .int (iZ (((k + 1 : Nat) : Int) + (-1))))]) C dX10_walkOn_58 rfl (by decide) rfl ?_
          refine pw_goto (tgt := 43) C dX10_walkOn_61 (by decide) ?_
          rw [show (((k + 1 : Nat)) : Int) + (-1) = ((k : Nat) : Int) by omega]
          have hdk : (lsO (obCdr Y)).drop k = obCar (cdN (k + 1) Y) :: (lsO (obCdr Y)).drop (k + 1) := drop_one (lsO_cdN k (obCdr Y) (by omega)).2
          have hdl : ((lsO (obCdr Y)).drop k ++ S1).length = ((lsO (obCdr Y)).drop (k + 1) ++ S1).length + 1 := by rw [hdk]; simp
          exact ih w4 _ (by omega) (by rw [e40, show ((((lsO (obCdr Y)).drop k ++ S1).length : Nat) : Int) = ((((lsO (obCdr Y)).drop (k + 1) ++ S1).length : Nat) : Int) + 1 by omega]; rfl) e41 (upz_inI g49 (by omega)) (by rw [hdk, List.cons_append]; exact ⟨by rw [upz_self]; exact z_53v, WkI.up hW (Int.le_refl _)⟩) (fun k hk => (ho4 k (by omega)).trans (hf1 k (by omega)))
    have hgo := loop (lsO (obCdr Y)).length w_303 fw (Nat.le_refl _) (by rw [k_304, List.drop_length]; rfl) c_305 f2 (by rw [List.drop_length]; exact hWk.2) (fun q hq => (o_302 q (by omega)))
    rw [hlen] at hgo
    exact hgo
  · refine pw_iload_n (i := 1) C dX10_walkOn_28 rfl rfl ?_
    have hch : chO Y = [] := by unfold chO; rw [if_neg (by rw [h_308]; decide)]
    exact pw_iret C hr dX10_walkOn_29 ⟨_, fw, rfl, hWk.1, by rw [hch]; exact k_304, c_305, f2, by rw [hch]; exact hWk.2, fun q hq => (o_302 q (by omega))⟩

