def mpC (T : List Dn) (fu nk : Nat) (X : Ob) : Cr := if obLen X = 3 then mapC T fu nk (obCar (obCdr X)) (obCar (obCdr (obCdr X))) else (2, none, 0, 0, nk)
theorem mpC_len {T : List Dn} {fu nk : Nat} {X : Ob} (h : obLen X ≠ 3) : mpC T fu nk X = (2, none, 0, 0, nk) := by unfold mpC; rw [if_neg h]
theorem mpC_no {T : List Dn} {fu nk : Nat} {X : Ob} (h : obLen X = 3) (hb : ¬ (isFN (obCar (obCdr X)) = true ∧ obLen (obCar (obCdr (obCdr X))) ≠ -1)) : mpC T fu nk X = (2, none, 0, 0, nk) := by unfold mpC mapC; rw [if_pos h, if_neg hb]
theorem mpC_3 {T : List Dn} {fu nk : Nat} {X : Ob} (h : obLen X = 3) (hb : isFN (obCar (obCdr X)) = true ∧ obLen (obCar (obCdr (obCdr X))) ≠ -1) (hd : dLk T (obCar (obCdr X)) = none) : mpC T fu nk X = (3, none, 0, 0, nk) := by unfold mpC mapC; rw [if_pos h, if_pos hb, hd]
theorem mpC_2 {T : List Dn} {fu nk : Nat} {X : Ob} {d : Dn} (h : obLen X = 3) (hb : isFN (obCar (obCdr X)) = true ∧ obLen (obCar (obCdr (obCdr X))) ≠ -1) (hd : dLk T (obCar (obCdr X)) = some d) (h1 : obLen d.2.1 ≠ 1) : mpC T fu nk X = (2, none, 0, 0, nk) := by unfold mpC mapC; rw [if_pos h, if_pos hb, hd]; exact if_neg h1
theorem mpC_4 {T : List Dn} {fu nk : Nat} {X : Ob} {d : Dn} (h : obLen X = 3) (hb : isFN (obCar (obCdr X)) = true ∧ obLen (obCar (obCdr (obCdr X))) ≠ -1) (hd : dLk T (obCar (obCdr X)) = some d) (h1 : obLen d.2.1 = 1) (h4 : (mapF T fu (obCar (obCdr X)) (lsO (obCar (obCdr (obCdr X)))) 0 nk []).1 ≠ 0) : mpC T fu nk X = (4, none, (mapF T fu (obCar (obCdr X)) (lsO (obCar (obCdr (obCdr X)))) 0 nk []).2.2.1, (mapF T fu (obCar (obCdr X)) (lsO (obCar (obCdr (obCdr X)))) 0 nk []).1, (mapF T fu (obCar (obCdr X)) (lsO (obCar (obCdr (obCdr X)))) 0 nk []).2.2.2) := by unfold mpC mapC; rw [if_pos h, if_pos hb, hd]; show (if obLen d.2.1 = 1 then _ else _) = _; rw [if_pos h1, if_neg h4]
theorem mpC_0 {T : List Dn} {fu nk : Nat} {X : Ob} {d : Dn} (h : obLen X = 3) (hb : isFN (obCar (obCdr X)) = true ∧ obLen (obCar (obCdr (obCdr X))) ≠ -1) (hd : dLk T (obCar (obCdr X)) = some d) (h1 : obLen d.2.1 = 1) (h4 : (mapF T fu (obCar (obCdr X)) (lsO (obCar (obCdr (obCdr X)))) 0 nk []).1 = 0) : mpC T fu nk X = (0, some (mkL (mapF T fu (obCar (obCdr X)) (lsO (obCar (obCdr (obCdr X)))) 0 nk []).2.1.reverse), (mapF T fu (obCar (obCdr X)) (lsO (obCar (obCdr (obCdr X)))) 0 nk []).2.2.1, 0, (mapF T fu (obCar (obCdr X)) (lsO (obCar (obCdr (obCdr X)))) 0 nk []).2.2.2) := by unfold mpC mapC; rw [if_pos h, if_pos hb, hd]; show (if obLen d.2.1 = 1 then _ else _) = _; rw [if_pos h1, if_pos h4]
theorem cellM {B : Nat → Nat} {x : Nat → Int} {n s k : Int} (h7 : x 7 = n) (h10 : x 10 = s) (h40 : x 40 = k) : mdE B x = mdE B (evX x n s k (x 61) (x 63) (x 64) (x 65) (x 66) (x 67)) := by
  rw [← h7, ← h10, ← h40]
  rfl
set_option maxRecDepth 100000 in
set_option maxHeartbeats 4000000 in
/-- map -/
theorem m_X10_map (g : pw_P) (l : Launch) {w : pw_W} {b : Nat} {B : Nat → Nat} {x : Nat → Int} {t : Int → Ob} {n : Int} {sN : Nat} {fZ : Int → Int} {T : List Dn} {fu : Nat} (hC : CmW g w b B x t n sN fZ (plT T) [] fu 0 0 0) {o : Int} {X : Ob} (ho : Vl t n o X) (hfu : fu ≤ 1000) (hTo0 : TOk T) (hTn0 : TNs T) (hnd : (nd2 X).1 ≤ 1000) {nk : Nat} (hcap : n + 6020 ≤ 40000) : pw_M g l yX10_map cX10_map 6 (some .int) { frames := 6, cells := 0, slots := 0, locals := 133 } [.ref b, .int (iZ o)] w (fun r w' => rCc g w w' b B x t n sN fu (plT T) (mpC T fu nk X) 6010 r) := by
  refine pw_M.of (by decide) (Nat.le_of_ble_eq_true rfl) rfl ?_
  intro p e s m args below meth c C hr hn
  obtain ⟨h0, hR, hK, hD, ⟨hBt, hWk, hIt, hEv, hTp, hTl, hMp⟩, hO, h7, h10, h32, h37, h39, h40, h41, h45, h47, h69, h38⟩ := id hC
  have hRn := hR.n
  have hor := Vl.rg hR ho
  have hTo := hTo0.pl
  have hTn := hTn0.pl
  have hDl : ∀ d ∈ plT T, 0 ≤ obLen d.2.1 := fun d hd => (hTo d hd).2.1
  have hT6 : ∀ d ∈ plT T, obLen d.2.1 ≤ 6 := fun d hd => (hTo d hd).2.2.1
  obtain ⟨fn, fm, dv, fb, d1, d2, d3, d4, ⟨u1, u2, u3, u4⟩, hDf, hT40⟩ := id hD
  refine pw_aload_n (i := 0) C dX10_map_0 rfl rfl (Or.inr ⟨_, rfl⟩) ?_
  refine pw_iload_n (i := 1) C dX10_map_1 rfl rfl ?_
  refine pw_callV (As := [.int (iZ o)]) (st := []) C (m_X10_lengthOf g l h0 hR h7 h10 hK ho) my_X10_lengthOf ml_X10_325 (pw_rec.of C h0 cl_X10.1) rfl ⟨Nat.le_of_ble_eq_true rfl, Nat.le_of_ble_eq_true rfl⟩ ⟨by (try dsimp only); omega, by (try dsimp only); omega⟩ rfl (Nat.le_of_ble_eq_true rfl) dX10_map_2 ?_
  rintro _ _ ⟨rfl, rfl⟩
  refine pw_stk (st' := [.int (iZ (obLen X))]) rfl ?_
  have g_11 := obLen_rg hR ho
  refine pw_iconst C dX10_map_5 ?_
  refine pw_icmp_ne (tgt := 36) C (by omega) (by omega) dX10_map_6 (by decide) (fun h_12 => ?_) (fun h_12 => ?_)
  · refine pw_iconst C dX10_map_36 ?_
    exact pw_iret C hr dX10_map_37 (rCc.of (R0 := (2, none, 0, 0, nk)) (mpC_len (by omega)) ⟨x, t, n, sN, fZ, rfl, ⟨h0, hR, hK, hD, ⟨hBt, hWk, hIt, hEv, hTp, hTl, hMp⟩, hO, h7, h10, h32, h37, h39, h40, h41, h45, h47, h69, h38⟩, Ext.rf, by omega, by omega, ⟨rfl, rfl, rfl⟩, fun k hk => rfl⟩)
  · refine pw_aload_n (i := 0) C dX10_map_9 rfl rfl (Or.inr ⟨_, rfl⟩) ?_
    refine pw_aload_n (i := 0) C dX10_map_10 rfl rfl (Or.inr ⟨_, rfl⟩) ?_
    refine pw_iload_n (i := 1) C dX10_map_11 rfl rfl ?_
    refine pw_iconst C dX10_map_12 ?_
    refine pw_callV (As := [.int (iZ o), .int (iZ 2)]) (st := [.ref b]) C (m_X10_nth g l h0 hR h7 h10 hK ho (i := 2) (by omega) (fun q hq => ln_p (k := 3) (by omega) q (by omega))) my_X10_nth ml_X10_292 (pw_rec.of C h0 cl_X10.1) rfl ⟨Nat.le_of_ble_eq_true rfl, Nat.le_of_ble_eq_true rfl⟩ ⟨by (try dsimp only); omega, by (try dsimp only); omega⟩ rfl (Nat.le_of_ble_eq_true rfl) dX10_map_13 ?_
    rintro _ _ ⟨rfl, z_13, rfl, z_13q⟩
    have z_13v : Vl t n z_13 (obCar (obCdr (obCdr X))) := z_13q
    have z_13r := Vl.rg hR z_13v
    refine pw_stk (st' := [.int (iZ z_13), .ref b]) rfl ?_
    refine pw_callV (As := [.int (iZ z_13)]) (st := []) C (m_X10_lengthOf g l h0 hR h7 h10 hK z_13v) my_X10_lengthOf ml_X10_325 (pw_rec.of C h0 cl_X10.1) rfl ⟨Nat.le_of_ble_eq_true rfl, Nat.le_of_ble_eq_true rfl⟩ ⟨by (try dsimp only); omega, by (try dsimp only); omega⟩ rfl (Nat.le_of_ble_eq_true rfl) dX10_map_16 ?_
    rintro _ _ ⟨rfl, rfl⟩
    refine pw_stk (st' := [.int (iZ (obLen (obCar (obCdr (obCdr X)))))]) rfl ?_
    have g_14 := obLen_rg hR z_13v
    refine pw_iconst C dX10_map_19 ?_
    refine pw_icmp_eq (tgt := 36) C (by omega) (by omega) dX10_map_20 (by decide) (fun h_15 => ?_) (fun h_15 => ?_)
    · refine pw_iconst C dX10_map_36 ?_
      exact pw_iret C hr dX10_map_37 (rCc.of (R0 := (2, none, 0, 0, nk)) (mpC_no (by omega) (fun e => absurd (e.2) (by omega))) ⟨x, t, n, sN, fZ, rfl, ⟨h0, hR, hK, hD, ⟨hBt, hWk, hIt, hEv, hTp, hTl, hMp⟩, hO, h7, h10, h32, h37, h39, h40, h41, h45, h47, h69, h38⟩, Ext.rf, by omega, by omega, ⟨rfl, rfl, rfl⟩, fun k hk => rfl⟩)
    · refine pw_aload_n (i := 0) C dX10_map_23 rfl rfl (Or.inr ⟨_, rfl⟩) ?_
      refine pw_aload_n (i := 0) C dX10_map_24 rfl rfl (Or.inr ⟨_, rfl⟩) ?_
      refine pw_iload_n (i := 1) C dX10_map_25 rfl rfl ?_
      refine pw_iconst C dX10_map_26 ?_
      refine pw_callV (As := [.int (iZ o), .int (iZ 1)]) (st := [.ref b]) C (m_X10_nth g l h0 hR h7 h10 hK ho (i := 1) (by omega) (fun q hq => ln_p (k := 3) (by omega) q (by omega))) my_X10_nth ml_X10_292 (pw_rec.of C h0 cl_X10.1) rfl ⟨Nat.le_of_ble_eq_true rfl, Nat.le_of_ble_eq_true rfl⟩ ⟨by (try dsimp only); omega, by (try dsimp only); omega⟩ rfl (Nat.le_of_ble_eq_true rfl) dX10_map_27 ?_
      rintro _ _ ⟨rfl, z_16, rfl, z_16q⟩
      have z_16v : Vl t n z_16 (obCar (obCdr X)) := z_16q
      have z_16r := Vl.rg hR z_16v
      refine pw_stk (st' := [.int (iZ z_16), .ref b]) rfl ?_
      refine pw_callV (As := [.int (iZ z_16)]) (st := []) C (m_X10_isNewName g l h0 hR h7 h10 hK z_16v) my_X10_isNewName ml_X10_442 (pw_rec.of C h0 cl_X10.1) rfl ⟨Nat.le_of_ble_eq_true rfl, Nat.le_of_ble_eq_true rfl⟩ ⟨by (try dsimp only); omega, by (try dsimp only); omega⟩ rfl (Nat.le_of_ble_eq_true rfl) dX10_map_30 ?_
      rintro _ _ ⟨rfl, rfl⟩
      refine pw_stk (st' := [.int (iZ (b2i (isFN (obCar (obCdr X)))))]) rfl ?_
      refine pw_if_neB (tgt := 38) C dX10_map_33 (by decide) (fun h_17 => ?_) (fun h_17 => ?_)
      · have hfn := h_17
        have hbb : isFN (obCar (obCdr X)) = true ∧ obLen (obCar (obCdr (obCdr X))) ≠ -1 := ⟨hfn, by omega⟩
        refine pw_aload_n (i := 0) C dX10_map_38 rfl rfl (Or.inr ⟨_, rfl⟩) ?_
        refine pw_aload_n (i := 0) C dX10_map_39 rfl rfl (Or.inr ⟨_, rfl⟩) ?_
        refine pw_iload_n (i := 1) C dX10_map_40 rfl rfl ?_
        refine pw_iconst C dX10_map_41 ?_
        refine pw_callV (As := [.int (iZ o), .int (iZ 1)]) (st := [.ref b]) C (m_X10_nth g l h0 hR h7 h10 hK ho (i := 1) (by omega) (fun q hq => ln_p (k := 3) (by omega) q (by omega))) my_X10_nth ml_X10_292 (pw_rec.of C h0 cl_X10.1) rfl ⟨Nat.le_of_ble_eq_true rfl, Nat.le_of_ble_eq_true rfl⟩ ⟨by (try dsimp only); omega, by (try dsimp only); omega⟩ rfl (Nat.le_of_ble_eq_true rfl) dX10_map_42 ?_
        rintro _ _ ⟨rfl, z_18, rfl, z_18q⟩
        have z_18v : Vl t n z_18 (obCar (obCdr X)) := z_18q
        have z_18r := Vl.rg hR z_18v
        refine pw_stk (st' := [.int (iZ z_18), .ref b]) rfl ?_
        refine pw_callV (As := [.int (iZ z_18)]) (st := []) C (m_X10_definition g l h0 hR h7 h10 hK hD h32 z_18v) my_X10_definition ml_X10_445 (pw_rec.of C h0 cl_X10.1) rfl ⟨Nat.le_of_ble_eq_true rfl, Nat.le_of_ble_eq_true rfl⟩ ⟨by (try dsimp only); omega, by (try dsimp only); omega⟩ rfl (Nat.le_of_ble_eq_true rfl) dX10_map_45 ?_
        rintro _ _ ⟨rfl, rfl⟩
        have hixr := oIx_in (X := (obCar (obCdr X))) hT40
        refine pw_stk (st' := [.int (iZ (oIx (dIx (plT T) (obCar (obCdr X)) 0) 0))]) rfl ?_
        refine pw_istore_n (i := 2) (lv' := [(0, .ref b), (1, .int (iZ o)), (2, .int (iZ (oIx (dIx (plT T) (obCar (obCdr X)) 0) 0)))]) C dX10_map_48 rfl (by decide) rfl ?_
        refine pw_iload_n (i := 2) C dX10_map_49 rfl rfl ?_
        refine pw_iconst C dX10_map_50 ?_
        refine pw_icmp_ne (tgt := 56) C (by omega) (by omega) dX10_map_51 (by decide) (fun h_19 => ?_) (fun h_19 => ?_)
        · obtain ⟨j, d, hje, hjd, hjg, hd1, hdl, hjl⟩ := oIx_yes (T := T) (X := (obCar (obCdr X))) (by omega)
          rw [hje]
          have hgj := DfM.get hDf hjg
          rw [Nat.zero_add] at hgj
          have hP6 := hT6 _ (List.mem_of_getElem? hjg)
          have hP0 := hDl _ (List.mem_of_getElem? hjg)
          have hPl := lsO_len (R0 := (plD d).2.1) hP0
          have hfm := hgj.2.1
          refine pw_aload_n (i := 0) C dX10_map_56 rfl rfl (Or.inr ⟨_, rfl⟩) ?_
          refine pw_get (j := 34) C cl_X10 fl_X10_77 (by decide) rfl h0 rfl dX10_map_57 ?_
          refine pw_stk (st' := [.ref (B 34)]) rfl ?_
          refine pw_iload_n (i := 2) C dX10_map_60 rfl rfl ?_
          have g_20 := u2 ((j : Nat) : Int)
          refine pw_iald C d2 ⟨by omega, by omega, by omega⟩ dX10_map_61 ?_
          refine pw_iconst C dX10_map_62 ?_
          refine pw_icmp_eq (tgt := 68) C (by omega) (by omega) dX10_map_63 (by decide) (fun h_21 => ?_) (fun h_21 => ?_)
          · refine pw_iconst C dX10_map_68 ?_
            refine pw_istore_n (i := 3) (lv' := [(0, .ref b), (1, .int (iZ o)), (2, .int (iZ ((j : Nat) : Int))), (3, .int (iZ 0))]) C dX10_map_69 rfl (by decide) rfl ?_
            refine pw_aload_n (i := 0) C dX10_map_70 rfl rfl (Or.inr ⟨_, rfl⟩) ?_
            refine pw_iload_n (i := 1) C dX10_map_71 rfl rfl ?_
            refine pw_iconst C dX10_map_72 ?_
            refine pw_callV (As := [.int (iZ o), .int (iZ 2)]) (st := []) C (m_X10_nth g l h0 hR h7 h10 hK ho (i := 2) (by omega) (fun q hq => ln_p (k := 3) (by omega) q (by omega))) my_X10_nth ml_X10_292 (pw_rec.of C h0 cl_X10.1) rfl ⟨Nat.le_of_ble_eq_true rfl, Nat.le_of_ble_eq_true rfl⟩ ⟨by (try dsimp only); omega, by (try dsimp only); omega⟩ rfl (Nat.le_of_ble_eq_true rfl) dX10_map_73 ?_
            rintro _ _ ⟨rfl, z_22, rfl, z_22q⟩
            have z_22v : Vl t n z_22 (obCar (obCdr (obCdr X))) := z_22q
            have z_22r := Vl.rg hR z_22v
            refine pw_stk (st' := [.int (iZ z_22)]) rfl ?_
            refine pw_istore (lv' := [(0, .ref b), (1, .int (iZ o)), (2, .int (iZ ((j : Nat) : Int))), (3, .int (iZ 0)), (4, .int (iZ z_22))]) C dX10_map_76 (by decide) rfl ?_
            have hX3 : obLen X = 3 := by omega
            have hd1l : obLen d.2.1 = 1 := by have e2 : obLen (plD d).2.1 = obLen d.2.1 := rfl; omega
            have hl1 : (lsO (obCar (obCdr (obCdr X)))).length ≤ 1000 := ls_1000 (nd2_at hnd 1 (fun i hi => ln_p (k := 3) (by omega) (i + 1) (by omega))).1
            have loop : ∀ (kk : Nat) (w1 : pw_W) (t1 : Int → Ob) (n1 : Int) (s1 : Nat) (Z1 : Int → Int) (k : Int) (Q : Ob) (acc : List Ob) (ks nk1 : Nat) (fmp : Int → Int) (e1 e2 e3 e4 e5 e6 : Int), (obLen Q).toNat = kk → RS g w1 B t1 n1 s1 Z1 → Ext t n t1 n1 → Vl t1 n1 k Q → 0 ≤ obLen Q → acc.length + kk ≤ 1000 → w1 1000 = (b, some (mdE B (evX x n1 ((s1 : Nat) : Int) ((ks : Nat) : Int) e1 e2 e3 e4 e5 e6))) → gEv g w1 B → w1 1069 = (B 68, some (AI g 1000 fmp)) → (∀ j, inI (fmp j)) → VlsI t1 n1 fmp 0 acc.reverse → ks ≤ fu → n1 + (((fu : Nat) : Int) - ((ks : Nat) : Int)) ≤ n + ((fu : Nat) : Int) + 4 * ((acc.length : Nat) : Int) → s1 ≤ sN → mapF T fu (obCar (obCdr X)) (lsO Q) ks nk1 acc = (mapF T fu (obCar (obCdr X)) (lsO (obCar (obCdr (obCdr X)))) 0 nk []) → (∀ q, (q < 1000 ∨ (1010 < q ∧ q < 1056) ∨ (1063 < q ∧ q ≠ 1069)) → w1 q = w q) → pw_G g p l e { frames := 6, cells := 0, slots := 0, locals := 133 } s m args below meth c 6 (pw_Q g below (fun r w' => rCc g w w' b B x t n sN fu (plT T) (mpC T fu nk X) 6010 r) args s { frames := 6, cells := 0, slots := 0, locals := 133 }) 0 0 78 [(0, .ref b), (1, .int (iZ o)), (2, .int (iZ ((j : Nat) : Int))), (3, .int (iZ ((acc.length : Nat) : Int))), (4, .int (iZ k))] [] w1 := by
              intro kk
              induction kk with
              | zero =>
                intro w1 t1 n1 s1 Z1 k Q acc ks nk1 fmp e1 e2 e3 e4 e5 e6 hkk hR1 hext hk hl0 hal y0 hEv1 y69 u69 hmp hks hnb1 hs1 hmf hf1
                have hkr := Vl.rg hR1 hk
                have hMp1 : gMp g w1 B := ⟨fmp, y69, u69⟩
                have hK1 := RK.ext hK hext
                have hR1n := hR1.n
                have hext1 := hext.1
                obtain ⟨fL, fR, fH, fV, l0, l1, l4, l5, ⟨m0, m1, m4, m5⟩, hln⟩ := RS.lens hR1
                have hp : obP Q = false := by
                  cases hb : obP Q with
                  | false => rfl
                  | true => have := obLen_cdr hb hl0; omega
                have hk0 : k = 0 := (RS.inj hR1 hk hK1.nil).mpr (obLen_np hp hl0).1
                have hMe : (mapF T fu (obCar (obCdr X)) (lsO (obCar (obCdr (obCdr X)))) 0 nk []) = (0, acc, ks, nk1) := by rw [← hmf, lsO_np hp]; rfl
                have hM0 : (mapF T fu (obCar (obCdr X)) (lsO (obCar (obCdr (obCdr X)))) 0 nk []).1 = 0 := by rw [hMe]
                have hMr : (mapF T fu (obCar (obCdr X)) (lsO (obCar (obCdr (obCdr X)))) 0 nk []).2.1.reverse = acc.reverse := by rw [hMe]
                have hs40 : ((ks : Nat) : Int) = (((mapF T fu (obCar (obCdr X)) (lsO (obCar (obCdr (obCdr X)))) 0 nk []).2.2.1 : Nat) : Int) := by rw [hMe]
                refine pw_iload C dX10_map_78 rfl ?_
                refine pw_if_eq (tgt := 154) C (by omega) dX10_map_80 (by decide) (fun h_3001 => ?_) (fun h_3001 => ?_)
                · refine pw_iconst C dX10_map_154 ?_
                  refine pw_istore (lv' := [(0, .ref b), (1, .int (iZ o)), (2, .int (iZ ((j : Nat) : Int))), (3, .int (iZ ((acc.length : Nat) : Int))), (4, .int (iZ 0))]) C dX10_map_155 (by decide) rfl ?_
                  refine pw_iload_n (i := 3) C dX10_map_157 rfl rfl ?_
                  refine pw_iconst C dX10_map_158 ?_
                  refine pw_isub C dX10_map_159 ?_
                  refine pw_istore (lv' := [(0, .ref b), (1, .int (iZ o)), (2, .int (iZ ((j : Nat) : Int))), (3, .int (iZ ((acc.length : Nat) : Int))), (4, .int (iZ 0)), (5, .int (iZ (((acc.length : Nat) : Int) - 1)))]) C dX10_map_160 (by decide) rfl ?_
                  have loop2 : ∀ (kk : Nat) (w2 : pw_W) (t2 : Int → Ob) (n2 : Int) (s2 : Nat) (Z2 : Int → Int) (lz : Int), kk ≤ acc.length → RS g w2 B t2 n2 s2 Z2 → Ext t1 n1 t2 n2 → n2 ≤ n1 + ((acc.length : Nat) : Int) - ((kk : Nat) : Int) → s2 ≤ s1 → w2 1000 = (b, some (mdE B (va_up (va_up (evX x n1 ((s1 : Nat) : Int) ((ks : Nat) : Int) e1 e2 e3 e4 e5 e6) 7 n2) 10 ((s2 : Nat) : Int)))) → Vl t2 n2 lz (mkL (acc.reverse.drop kk)) → (∀ k, (k < 1000 ∨ 1010 < k ∨ k = 1008) → w2 k = w1 k) → pw_G g p l e { frames := 6, cells := 0, slots := 0, locals := 133 } s m args below meth c 6 (pw_Q g below (fun r w' => rCc g w w' b B x t n sN fu (plT T) (mpC T fu nk X) 6010 r) args s { frames := 6, cells := 0, slots := 0, locals := 133 }) 0 0 162 [(0, .ref b), (1, .int (iZ o)), (2, .int (iZ ((j : Nat) : Int))), (3, .int (iZ ((acc.length : Nat) : Int))), (4, .int (iZ lz)), (5, .int (iZ (((kk : Nat) : Int) - 1)))] [] w2 := by
                    intro kk
                    induction kk with
                    | zero =>
                      intro w2 t2 n2 s2 Z2 lz hkk2 hR2 hext2 hn2 hs2 y2 hlz hf2
                      have hK2 := RK.ext hK1 hext2
                      have hR2n := hR2.n
                      have hlzr := Vl.rg hR2 hlz
                      have hext21 := hext2.1
                      rw [List.drop_zero] at hlz
                      refine pw_iload C dX10_map_162 rfl ?_
                      refine pw_if_lt (tgt := 188) C (by omega) dX10_map_164 (by decide) (fun h_5001 => ?_) (fun h_5001 => ?_)
                      · refine pw_aload_n (i := 0) C dX10_map_188 rfl rfl (Or.inr ⟨_, rfl⟩) ?_
                        refine pw_iload C dX10_map_189 rfl ?_
                        have G_5002 := hTl.same (w' := w2) (fun k hk => (hf2 k (by omega)).trans (hf1 k (by omega)))
                        obtain ⟨q_5003, q_50031, q_50032⟩ := G_5002
                        refine pw_callV (As := [.int (iZ lz)]) (st := []) C (m_X10_tellOut g l y2 hR2 rfl rfl hK2 hlz (hO.same ((hf2 1015 (by omega)).trans (hf1 1015 (by omega)))) q_50031 q_50032) my_X10_tellOut ml_X10_427 (pw_rec.of C y2 cl_X10.1) rfl ⟨Nat.le_of_ble_eq_true rfl, Nat.le_of_ble_eq_true rfl⟩ ⟨by (try dsimp only); omega, by (try dsimp only); omega⟩ rfl (Nat.le_of_ble_eq_true rfl) dX10_map_191 ?_
                        rintro _ w_5012 ⟨rfl, ⟨v_5004, k_5005, fk_5006, e_5007, O_5008, e_5009, g_5010⟩, o_5011⟩
                        have G_5013 : gTl g w_5012 B := ⟨fk_5006, e_5009, g_5010⟩
                        refine pw_stk (st' := []) rfl ?_
                        refine pw_iconst C dX10_map_194 ?_
                        have R_5014 := hR2.same (w' := w_5012) (fun k hk => (o_5011 k (by omega)))
                        have D_5015 := hD.same (w' := w_5012) (fun k hk => (o_5011 k (by omega)).trans ((hf2 k (by omega)).trans (hf1 k (by omega)))) (hext.tr hext2)
                        have G_5016 := hBt.same (w' := w_5012) (fun k hk => (o_5011 k (by omega)).trans ((hf2 k (by omega)).trans (hf1 k (by omega))))
                        have G_5017 := hWk.same (w' := w_5012) (fun k hk => (o_5011 k (by omega)).trans ((hf2 k (by omega)).trans (hf1 k (by omega))))
                        have G_5018 := hIt.same (w' := w_5012) (fun k hk => (o_5011 k (by omega)).trans ((hf2 k (by omega)).trans (hf1 k (by omega))))
                        have G_5019 := hEv1.same (w' := w_5012) (fun k hk => (o_5011 k (by omega)).trans (hf2 k (by omega)))
                        have G_5020 := hTp.same (w' := w_5012) (fun k hk => (o_5011 k (by omega)).trans ((hf2 k (by omega)).trans (hf1 k (by omega))))
                        have G_5021 := hMp1.same (w' := w_5012) (fun k hk => (o_5011 k (by omega)).trans (hf2 k (by omega)))
                        exact pw_iret C hr dX10_map_195 (rCc.of (R0 := (0, some (mkL (mapF T fu (obCar (obCdr X)) (lsO (obCar (obCdr (obCdr X)))) 0 nk []).2.1.reverse), (mapF T fu (obCar (obCdr X)) (lsO (obCar (obCdr (obCdr X)))) 0 nk []).2.2.1, 0, (mapF T fu (obCar (obCdr X)) (lsO (obCar (obCdr (obCdr X)))) 0 nk []).2.2.2)) (mpC_0 hX3 hbb hdl hd1l hM0) ⟨(va_up (va_up (va_up (va_up (evX x n1 ((s1 : Nat) : Int) ((ks : Nat) : Int) e1 e2 e3 e4 e5 e6) 7 n2) 10 ((s2 : Nat) : Int)) 15 v_5004) 19 k_5005), t2, n2, s2, Z2, rfl, ⟨e_5007, R_5014, hK2, D_5015, ⟨G_5016, G_5017, G_5018, G_5019, G_5020, G_5013, G_5021⟩, (by show MOut _ _ _ _ (otx (mkL (mapF T fu (obCar (obCdr X)) (lsO (obCar (obCdr (obCdr X)))) 0 nk []).2.1.reverse)).1; rw [hMr]; exact O_5008), rfl, rfl, h32, h37, h39, hs40, h41, h45, h47, h69, h38⟩, (hext.tr hext2), by omega, by omega, ⟨rfl, rfl, rfl⟩, fun k hk => (o_5011 k (by omega)).trans ((hf2 k (by omega)).trans (hf1 k (by omega)))⟩)
                      · exfalso; omega
                    | succ kk ih2 =>
                      intro w2 t2 n2 s2 Z2 lz hkk2 hR2 hext2 hn2 hs2 y2 hlz hf2
                      have hK2 := RK.ext hK1 hext2
                      have hR2n := hR2.n
                      have hlzr := Vl.rg hR2 hlz
                      have hext21 := hext2.1
                      rw [show ((kk + 1 : Nat) : Int) - 1 = ((kk : Nat) : Int) by omega]
                      obtain ⟨Y, hY⟩ : ∃ Y, acc.reverse[kk]? = some Y := ⟨_, List.getElem?_eq_getElem (by rw [List.length_reverse]; omega)⟩
                      have hvk := (VlsI.mem kk hmp hY).ext hext2
                      rw [Int.zero_add] at hvk
                      have hvkr := Vl.rg hR2 hvk
                      refine pw_iload C dX10_map_162 rfl ?_
                      refine pw_if_lt (tgt := 188) C (by omega) dX10_map_164 (by decide) (fun h_6001 => ?_) (fun h_6001 => ?_)
                      · exfalso; omega
                      · refine pw_aload_n (i := 0) C dX10_map_167 rfl rfl (Or.inr ⟨_, rfl⟩) ?_
                        refine pw_aload_n (i := 0) C dX10_map_168 rfl rfl (Or.inr ⟨_, rfl⟩) ?_
                        refine pw_get (j := 68) C cl_X10 fl_X10_138 (by decide) rfl y2 rfl dX10_map_169 ?_
                        refine pw_stk (st' := [.ref (B 68), .ref b]) rfl ?_
                        refine pw_iload C dX10_map_172 rfl ?_
                        have c_6002 := (hf2 1069 (by omega)).trans y69
                        have g_6003 := u69 ((kk : Nat) : Int)
                        refine pw_iald C c_6002 ⟨by omega, by omega, by omega⟩ dX10_map_174 ?_
                        refine pw_iload C dX10_map_175 rfl ?_
                        refine pw_callV (As := [.int (iZ (fmp ((kk : Nat) : Int))), .int (iZ lz)]) (st := []) C (rd_pair g l y2 hR2 rfl rfl hvk hlz (by omega)) my_X10_pair ml_X10_183 (pw_rec.of C y2 cl_X10.1) rfl ⟨Nat.le_of_ble_eq_true rfl, Nat.le_of_ble_eq_true rfl⟩ ⟨by (try dsimp only); omega, by (try dsimp only); omega⟩ rfl (Nat.le_of_ble_eq_true rfl) dX10_map_177 ?_
                        rintro _ w_6016 ⟨z_6004, t_6005, n_6006, sN_6007, Z_6008, rfl, e_6009, R_6010, x_6011, hn_6012, hs_6013, hZ_6014, z_6004v, o_6015⟩
                        have x_60111 := x_6011.1
                        have R_6010n := R_6010.n
                        have v_6017 := Vl.ext hlz x_6011
                        have v_6018 := Vl.ext hvk x_6011
                        have K_6019 := RK.ext hK2 x_6011
                        have z_6004r := Vl.rg R_6010 z_6004v
                        refine pw_stk (st' := [.int (iZ z_6004)]) rfl ?_
                        refine pw_istore (lv' := [(0, .ref b), (1, .int (iZ o)), (2, .int (iZ ((j : Nat) : Int))), (3, .int (iZ ((acc.length : Nat) : Int))), (4, .int (iZ z_6004)), (5, .int (iZ ((kk : Nat) : Int)))]) C dX10_map_180 (by decide) rfl ?_
                        refine pw_iinc (lv' := [(0, .ref b), (1, .int (iZ o)), (2, .int (iZ ((j : Nat) : Int))), (3, .int (iZ ((acc.length : Nat) : Int))), (4, .int (iZ z_6004)), (5, .int (iZ (((kk : Nat) : Int) + (-1))))]) C dX10_map_182 rfl (by decide) rfl ?_
                        refine pw_goto (tgt := 162) C dX10_map_185 (by decide) ?_
                        rw [show ((kk : Nat) : Int) + (-1) = ((kk : Nat) : Int) - 1 by omega]
                        exact ih2 w_6016 t_6005 n_6006 sN_6007 Z_6008 z_6004 (by omega) R_6010 (hext2.tr x_6011) (by omega) (by omega) (by rw [e_6009]; rfl) (by rw [drop1 hY]; exact z_6004v) (fun k hk => (o_6015 k (by omega)).trans (hf2 k (by omega)))
                  exact loop2 acc.length w1 t1 n1 s1 Z1 0 (Nat.le_refl _) hR1 Ext.rf (by omega) (Nat.le_refl _) (by rw [y0]; rfl) (by rw [← List.length_reverse, List.drop_length]; exact hK1.nil) (fun _ _ => rfl)
                · exfalso; omega
              | succ kk ih =>
                intro w1 t1 n1 s1 Z1 k Q acc ks nk1 fmp e1 e2 e3 e4 e5 e6 hkk hR1 hext hk hl0 hal y0 hEv1 y69 u69 hmp hks hnb1 hs1 hmf hf1
                have hkr := Vl.rg hR1 hk
                have hMp1 : gMp g w1 B := ⟨fmp, y69, u69⟩
                have hK1 := RK.ext hK hext
                have hR1n := hR1.n
                have hext1 := hext.1
                obtain ⟨fL, fR, fH, fV, l0, l1, l4, l5, ⟨m0, m1, m4, m5⟩, hln⟩ := RS.lens hR1
                have hp : obP Q = true := obLen_pos (by omega)
                have hkn : k ≠ 0 := fun e => by rw [(RS.inj hR1 hk hK1.nil).mp e] at hp; cases hp
                refine pw_iload C dX10_map_78 rfl ?_
                refine pw_if_eq (tgt := 154) C (by omega) dX10_map_80 (by decide) (fun h_1001 => ?_) (fun h_1001 => ?_)
                · exfalso; omega
                · have hcc := (hln k Q hk).1 hp
                  have hcr1 := Vl.rg hR1 hcc.1
                  refine pw_aload_n (i := 0) C dX10_map_83 rfl rfl (Or.inr ⟨_, rfl⟩) ?_
                  refine pw_aload_n (i := 0) C dX10_map_84 rfl rfl (Or.inr ⟨_, rfl⟩) ?_
                  refine pw_iload_n (i := 1) C dX10_map_85 rfl rfl ?_
                  refine pw_iconst C dX10_map_86 ?_
                  refine pw_callV (As := [.int (iZ o), .int (iZ 1)]) (st := [.ref b]) C (m_X10_nth g l y0 hR1 rfl rfl hK1 (ho.ext hext) (i := 1) (by omega) (fun q hq => ln_p (k := 3) (by omega) q (by omega))) my_X10_nth ml_X10_292 (pw_rec.of C y0 cl_X10.1) rfl ⟨Nat.le_of_ble_eq_true rfl, Nat.le_of_ble_eq_true rfl⟩ ⟨by (try dsimp only); omega, by (try dsimp only); omega⟩ rfl (Nat.le_of_ble_eq_true rfl) dX10_map_87 ?_
                  rintro _ _ ⟨rfl, z_1002, rfl, z_1002q⟩
                  have z_1002v : Vl t1 n1 z_1002 (obCar (obCdr X)) := z_1002q
                  have z_1002r := Vl.rg hR1 z_1002v
                  refine pw_stk (st' := [.int (iZ z_1002), .ref b]) rfl ?_
                  refine pw_aload_n (i := 0) C dX10_map_90 rfl rfl (Or.inr ⟨_, rfl⟩) ?_
                  refine pw_aload_n (i := 0) C dX10_map_91 rfl rfl (Or.inr ⟨_, rfl⟩) ?_
                  refine pw_get (j := 0) C cl_X10 fl_X10_8 (by decide) rfl y0 rfl dX10_map_92 ?_
                  refine pw_stk (st' := [.ref (B 0), .ref b, .int (iZ z_1002), .ref b]) rfl ?_
                  refine pw_iload C dX10_map_95 rfl ?_
                  have g_1003 := m0 k
                  refine pw_iald C l0 ⟨by omega, by omega, by omega⟩ dX10_map_97 ?_
                  refine pw_callV (As := [.int (iZ (fL k))]) (st := [.int (iZ z_1002), .ref b]) C (m_X10_constantOf g l y0 hR1 rfl rfl hK1 hcc.1 (by omega)) my_X10_constantOf ml_X10_319 (pw_rec.of C y0 cl_X10.1) rfl ⟨Nat.le_of_ble_eq_true rfl, Nat.le_of_ble_eq_true rfl⟩ ⟨by (try dsimp only); omega, by (try dsimp only); omega⟩ rfl (Nat.le_of_ble_eq_true rfl) dX10_map_98 ?_
                  rintro _ w_1016 ⟨z_1004, t_1005, n_1006, sN_1007, Z_1008, rfl, e_1009, R_1010, x_1011, hn_1012, hs_1013, hZ_1014, z_1004v, o_1015⟩
                  have x_10111 := x_1011.1
                  have R_1010n := R_1010.n
                  have v_1017 := Vl.ext (ho.ext hext) x_1011
                  have v_1018 := Vl.ext hk x_1011
                  have v_1019 := Vl.ext hcc.1 x_1011
                  have v_1020 := Vl.ext hcc.2 x_1011
                  have v_1021 := Vl.ext z_1002v x_1011
                  have K_1022 := RK.ext hK1 x_1011
                  have z_1004r := Vl.rg R_1010 z_1004v
                  refine pw_stk (st' := [.int (iZ z_1004), .int (iZ z_1002), .ref b]) rfl ?_
                  refine pw_callV (As := [.int (iZ z_1002), .int (iZ z_1004)]) (st := []) C (m_X10_list2 g l e_1009 R_1010 rfl rfl K_1022 v_1021 z_1004v (by omega)) my_X10_list2 ml_X10_189 (pw_rec.of C e_1009 cl_X10.1) rfl ⟨Nat.le_of_ble_eq_true rfl, Nat.le_of_ble_eq_true rfl⟩ ⟨by (try dsimp only); omega, by (try dsimp only); omega⟩ rfl (Nat.le_of_ble_eq_true rfl) dX10_map_101 ?_
                  rintro _ w_1035 ⟨z_1023, t_1024, n_1025, sN_1026, Z_1027, rfl, e_1028, R_1029, x_1030, hn_1031, hs_1032, hZ_1033, z_1023v, o_1034⟩
                  have x_10301 := x_1030.1
                  have R_1029n := R_1029.n
                  have v_1036 := Vl.ext v_1017 x_1030
                  have v_1037 := Vl.ext v_1018 x_1030
                  have v_1038 := Vl.ext v_1019 x_1030
                  have v_1039 := Vl.ext v_1020 x_1030
                  have v_1040 := Vl.ext v_1021 x_1030
                  have v_1041 := Vl.ext z_1004v x_1030
                  have K_1042 := RK.ext K_1022 x_1030
                  have z_1023r := Vl.rg R_1029 z_1023v
                  refine pw_stk (st' := [.int (iZ z_1023)]) rfl ?_
                  refine pw_istore (lv' := [(0, .ref b), (1, .int (iZ o)), (2, .int (iZ ((j : Nat) : Int))), (3, .int (iZ ((acc.length : Nat) : Int))), (4, .int (iZ k)), (5, .int (iZ z_1023))]) C dX10_map_104 (by decide) rfl ?_
                  refine pw_aload_n (i := 0) C dX10_map_106 rfl rfl (Or.inr ⟨_, rfl⟩) ?_
                  refine pw_get (j := 68) C cl_X10 fl_X10_138 (by decide) rfl e_1028 rfl dX10_map_107 ?_
                  refine pw_stk (st' := [.ref (B 68)]) rfl ?_
                  refine pw_iload_n (i := 3) C dX10_map_110 rfl rfl ?_
                  refine pw_aload_n (i := 0) C dX10_map_111 rfl rfl (Or.inr ⟨_, rfl⟩) ?_
                  refine pw_iload C dX10_map_112 rfl ?_
                  refine pw_iconst C dX10_map_114 ?_
                  obtain ⟨R9, hR9⟩ : ∃ R9, mRun (plT T) fu 30004 0 (.add (obCar (obCdr X)) (.add (cnO (obCar Q)) oNil)) [] [] ks nk1 = R9 := ⟨_, rfl⟩
                  obtain ⟨R8, hR8⟩ : ∃ R8, mp1 T fu (obCar (obCdr X)) (obCar Q) ks nk1 = R8 := ⟨_, rfl⟩
                  have hrn := mp_ref (fu := fu) (k := ks) (nk := nk1) (v := obCar Q) hTo0 hfn hdl hd1l
                  rw [hR8, hR9] at hrn
                  have hwc : (wf2 (plT T) (eHas []) (.add (obCar (obCdr X)) (.add (cnO (obCar Q)) oNil))).1 = true := by rw [wf2_plT]; exact mp_wf hfn hdl hd1l
                  have h9 : R9.1 ≠ 9 := by rw [← hR9]; exact mRun_ends hTo _ _ _ _ _ _ _ (Or.inl ⟨rfl, hwc, trivial⟩) (by simp only [frsPh]; omega)
                  have G_1043 := hTp.same (w' := w_1035) (fun k hk => (o_1034 k (by omega)).trans ((o_1015 k (by omega)).trans (hf1 k (by omega))))
                  have G_1044 := hEv1.same (w' := w_1035) (fun k hk => (o_1034 k (by omega)).trans (o_1015 k (by omega)))
                  have D_1045 := hD.same (w' := w_1035) (fun k hk => (o_1034 k (by omega)).trans ((o_1015 k (by omega)).trans (hf1 k (by omega)))) ((hext.tr x_1011).tr x_1030)
                  obtain ⟨q_1046a, q_1046b, q_1046c, q_1046d, q_1046e, q_1046f, q_1046g, q_1046h⟩ := G_1044
                  refine pw_callV (As := [.int (iZ z_1023), .int (iZ 0)]) (st := [.int (iZ ((acc.length : Nat) : Int)), .ref (B 68)]) C (m_X10_evaluated g l e_1028 R_1029 rfl rfl K_1042 D_1045 h32 z_1023v (G_1043.bd t_1024 n_1025) q_1046h h39 h37 rfl hfu hks hTo hTn (by omega) hwc (m0 := 30003) hR9 h9) my_X10_evaluated ml_X10_423 (pw_rec.of C e_1028 cl_X10.1) rfl ⟨Nat.le_of_ble_eq_true rfl, Nat.le_of_ble_eq_true rfl⟩ ⟨by (try dsimp only); omega, by (try dsimp only); omega⟩ rfl (Nat.le_of_ble_eq_true rfl) dX10_map_115 ?_
                  rintro _ w_1058 ⟨z_1047, t_1048, n_1049, sN_1050, Z_1051, p_1063, p_1064, p_1065, p_1066, p_1067, p_1068, p_1069, y_1070, y_1071, y_1072, y_1073, y_1074, y_1075, rfl, e_1052, R_1053, x_1054, hn_1055, hs_1056, A_1059, hv_1060, hk_1061, hnb_1062, o_1057⟩
                  have x_10541 := x_1054.1
                  have R_1053n := R_1053.n
                  have v_1076 := Vl.ext v_1036 x_1054
                  have v_1077 := Vl.ext v_1037 x_1054
                  have v_1078 := Vl.ext v_1038 x_1054
                  have v_1079 := Vl.ext v_1039 x_1054
                  have v_1080 := Vl.ext v_1040 x_1054
                  have v_1081 := Vl.ext v_1041 x_1054
                  have v_1082 := Vl.ext z_1023v x_1054
                  have K_1083 := RK.ext K_1042 x_1054
                  have G_1084 : gEv g w_1058 B := ⟨p_1063, p_1064, p_1065, p_1066, p_1067, p_1068, p_1069, A_1059⟩
                  have z_1047r : -1 ≤ z_1047 ∧ z_1047 < 40000 := by
                    rcases hv_1060 with ⟨_, q, _⟩ | ⟨_, q, _⟩
                    · have := Vl.rg R_1053 q; omega
                    · omega
                  refine pw_stk (st' := [.int (iZ z_1047), .int (iZ ((acc.length : Nat) : Int)), .ref (B 68)]) rfl ?_
                  have c_1085 := ((o_1057 1069 (by omega)).trans ((o_1034 1069 (by omega)).trans (o_1015 1069 (by omega)))).trans y69
                  refine pw_iast C c_1085 ⟨by omega, by omega, by omega⟩ dX10_map_118 (fun w_1088 k_1086 o_1087 => ?_)
                  refine pw_aload_n (i := 0) C dX10_map_119 rfl rfl (Or.inr ⟨_, rfl⟩) ?_
                  have c_1089 := (o_1087 1000 (by omega)).trans e_1052
                  refine pw_get (j := 68) C cl_X10 fl_X10_138 (by decide) rfl c_1089 rfl dX10_map_120 ?_
                  refine pw_stk (st' := [.ref (B 68)]) rfl ?_
                  refine pw_iload_n (i := 3) C dX10_map_123 rfl rfl ?_
                  refine pw_iald C k_1086 ⟨by omega, by omega, by omega⟩ dX10_map_124 ?_
                  rw [upz_self]
                  refine pw_stk (st' := [.int (iZ z_1047)]) rfl ?_
                  refine pw_iconst C dX10_map_125 ?_
                  refine pw_icmp_ne (tgt := 139) C (by omega) (by omega) dX10_map_126 (by decide) (fun h_1090 => ?_) (fun h_1090 => ?_)
                  · obtain ⟨heq, hzv, -⟩ := hv_1060.resolve_right (fun q => by omega)
                    have heq8 : R8.1 = 0 := by rw [← hrn.1]; exact heq
                    rw [hrn.2.2 heq8] at hzv
                    refine pw_iinc (lv' := [(0, .ref b), (1, .int (iZ o)), (2, .int (iZ ((j : Nat) : Int))), (3, .int (iZ (((acc.length : Nat) : Int) + 1))), (4, .int (iZ k)), (5, .int (iZ z_1023))]) C dX10_map_139 rfl (by decide) rfl ?_
                    have R_1091 := R_1053.same (w' := w_1088) (fun k hk => (o_1087 k (by omega)))
                    obtain ⟨fL9, fR9, fH9, fV9, l09, l19, l49, l59, ⟨m09, m19, m49, m59⟩, hln9⟩ := RS.lens R_1091
                    have hcc9 := (hln9 k Q v_1077).1 hp
                    have hcr9 := Vl.rg R_1091 hcc9.2
                    refine pw_aload_n (i := 0) C dX10_map_142 rfl rfl (Or.inr ⟨_, rfl⟩) ?_
                    refine pw_get (j := 1) C cl_X10 fl_X10_14 (by decide) rfl c_1089 rfl dX10_map_143 ?_
                    refine pw_stk (st' := [.ref (B 1)]) rfl ?_
                    refine pw_iload C dX10_map_146 rfl ?_
                    have g_1092 := m19 k
                    refine pw_iald C l19 ⟨by omega, by omega, by omega⟩ dX10_map_148 ?_
                    refine pw_istore (lv' := [(0, .ref b), (1, .int (iZ o)), (2, .int (iZ ((j : Nat) : Int))), (3, .int (iZ (((acc.length : Nat) : Int) + 1))), (4, .int (iZ (fR9 k))), (5, .int (iZ z_1023))]) C dX10_map_149 (by decide) rfl ?_
                    refine pw_goto (tgt := 78) C dX10_map_151 (by decide) ?_
                    have G_1093 := G_1084.same (w' := w_1088) (fun k hk => (o_1087 k (by omega)))
                    refine pw_sub [0, 1, 2, 3, 4] rfl ?_
                    rw [show ((acc.length : Nat) : Int) + 1 = (((R8.2.1 :: acc).length : Nat) : Int) by rw [List.length_cons]; omega]
                    have hlc := obLen_cdr hp hl0
                    exact ih w_1088 t_1048 n_1049 sN_1050 Z_1051 (fR9 k) (obCdr Q) (R8.2.1 :: acc) R9.2.2.1 R8.2.2.2 _ _ _ _ _ _ _ (by omega) R_1091 (((hext.tr x_1011).tr x_1030).tr x_1054) hcc9.2 hlc.2 (by rw [List.length_cons]; omega) (by rw [c_1089]; rfl) G_1093 k_1086 (upz_inI u69 (by omega)) (by rw [List.reverse_cons]; have := VlsI.add0 hzv (hmp.ext ((x_1011.tr x_1030).tr x_1054)); rw [List.length_reverse] at this; exact this) hk_1061 (by rw [List.length_cons]; have := hnb_1062; omega) (by omega) (by rw [← hmf, lsO_p hp]; simp only [mapF]; rw [hR8, if_pos heq8, hrn.2.1]) (fun q hq => (o_1087 q (by omega)).trans ((o_1057 q (by omega)).trans ((o_1034 q (by omega)).trans ((o_1015 q (by omega)).trans (hf1 q (by omega))))))
                  · obtain ⟨hne, -, hwy⟩ : R9.1 ≠ 0 ∧ z_1047 = -1 ∧ y_1073 = ((R9.1 : Nat) : Int) := hv_1060.resolve_left (fun q => by have := Vl.rg R_1053 q.2.1; omega)
                    have hne8 : R8.1 ≠ 0 := by rw [← hrn.1]; exact hne
                    have G_1094 : gMp g w_1088 B := ⟨_, k_1086, upz_inI u69 (by omega)⟩
                    refine pw_aload_n (i := 0) C dX10_map_129 rfl rfl (Or.inr ⟨_, rfl⟩) ?_
                    refine pw_aload_n (i := 0) C dX10_map_130 rfl rfl (Or.inr ⟨_, rfl⟩) ?_
                    refine pw_get (j := 65) C cl_X10 fl_X10_374 (by decide) rfl c_1089 rfl dX10_map_131 ?_
                    refine pw_stk (st' := [.int (iZ y_1073), .ref b]) rfl ?_
                    refine pw_put (j := 41) C cl_X10 fl_X10_301 (by decide) rfl rfl rfl rfl rfl c_1089 (Nat.le_of_ble_eq_true rfl) dX10_map_134 (fun w_1097 k_1095 o_1096 => ?_)
                    have k_1098 : w_1097 1000 = (b, some (mdE B (va_up (evX (va_up (va_up (va_up (va_up (evX x n1 ((s1 : Nat) : Int) ((ks : Nat) : Int) e1 e2 e3 e4 e5 e6) 7 n_1006) 10 ((sN_1007 : Nat) : Int)) 7 n_1025) 10 ((sN_1026 : Nat) : Int)) n_1049 ((sN_1050 : Nat) : Int) ((R9.2.2.1 : Nat) : Int) y_1070 y_1071 y_1072 y_1073 y_1074 y_1075) 41 y_1073))) := k_1095
                    refine pw_iconst C dX10_map_137 ?_
                    have hM4 : (mapF T fu (obCar (obCdr X)) (lsO (obCar (obCdr (obCdr X)))) 0 nk []) = (R8.1, acc, R8.2.2.1, R8.2.2.2) := by rw [← hmf, lsO_p hp]; simp only [mapF]; rw [hR8, if_neg hne8]
                    have R_1099 := R_1053.same (w' := w_1097) (fun k hk => (o_1096 k (by omega)).trans (o_1087 k (by omega)))
                    have D_1100 := D_1045.same (w' := w_1097) (fun k hk => (o_1096 k (by omega)).trans ((o_1087 k (by omega)).trans (o_1057 k (by omega)))) x_1054
                    have G_1101 := hBt.same (w' := w_1097) (fun k hk => (o_1096 k (by omega)).trans ((o_1087 k (by omega)).trans ((o_1057 k (by omega)).trans ((o_1034 k (by omega)).trans ((o_1015 k (by omega)).trans (hf1 k (by omega)))))))
                    have G_1102 := hWk.same (w' := w_1097) (fun k hk => (o_1096 k (by omega)).trans ((o_1087 k (by omega)).trans ((o_1057 k (by omega)).trans ((o_1034 k (by omega)).trans ((o_1015 k (by omega)).trans (hf1 k (by omega)))))))
                    have G_1103 := hIt.same (w' := w_1097) (fun k hk => (o_1096 k (by omega)).trans ((o_1087 k (by omega)).trans ((o_1057 k (by omega)).trans ((o_1034 k (by omega)).trans ((o_1015 k (by omega)).trans (hf1 k (by omega)))))))
                    have G_1104 := G_1084.same (w' := w_1097) (fun k hk => (o_1096 k (by omega)).trans (o_1087 k (by omega)))
                    have G_1105 := G_1043.same (w' := w_1097) (fun k hk => (o_1096 k (by omega)).trans ((o_1087 k (by omega)).trans (o_1057 k (by omega))))
                    have G_1106 := hTl.same (w' := w_1097) (fun k hk => (o_1096 k (by omega)).trans ((o_1087 k (by omega)).trans ((o_1057 k (by omega)).trans ((o_1034 k (by omega)).trans ((o_1015 k (by omega)).trans (hf1 k (by omega)))))))
                    have G_1107 := G_1094.same (w' := w_1097) (fun k hk => (o_1096 k (by omega)))
                    exact pw_iret C hr dX10_map_138 (rCc.of (R0 := (4, none, (mapF T fu (obCar (obCdr X)) (lsO (obCar (obCdr (obCdr X)))) 0 nk []).2.2.1, (mapF T fu (obCar (obCdr X)) (lsO (obCar (obCdr (obCdr X)))) 0 nk []).1, (mapF T fu (obCar (obCdr X)) (lsO (obCar (obCdr (obCdr X)))) 0 nk []).2.2.2)) (mpC_4 hX3 hbb hdl hd1l (by rw [hM4]; exact hne8)) ⟨(va_up (evX (va_up (va_up (va_up (va_up (evX x n1 ((s1 : Nat) : Int) ((ks : Nat) : Int) e1 e2 e3 e4 e5 e6) 7 n_1006) 10 ((sN_1007 : Nat) : Int)) 7 n_1025) 10 ((sN_1026 : Nat) : Int)) n_1049 ((sN_1050 : Nat) : Int) ((R9.2.2.1 : Nat) : Int) y_1070 y_1071 y_1072 y_1073 y_1074 y_1075) 41 y_1073), t_1048, n_1049, sN_1050, Z_1051, rfl, ⟨k_1098, R_1099, K_1083, D_1100, ⟨G_1101, G_1102, G_1103, G_1104, G_1105, G_1106, G_1107⟩, (hO.same ((o_1096 1015 (by omega)).trans ((o_1087 1015 (by omega)).trans ((o_1057 1015 (by omega)).trans ((o_1034 1015 (by omega)).trans ((o_1015 1015 (by omega)).trans (hf1 1015 (by omega)))))))), rfl, rfl, h32, h37, h39, (by rw [hM4]; show ((R9.2.2.1 : Nat) : Int) = ((R8.2.2.1 : Nat) : Int); rw [hrn.2.1]), (by rw [hM4]; show _ = ((R8.1 : Nat) : Int); rw [← hrn.1]; exact hwy), h45, h47, h69, h38⟩, (((hext.tr x_1011).tr x_1030).tr x_1054), by omega, by omega, ⟨rfl, rfl, rfl⟩, fun k hk => (o_1096 k (by omega)).trans ((o_1087 k (by omega)).trans ((o_1057 k (by omega)).trans ((o_1034 k (by omega)).trans ((o_1015 k (by omega)).trans (hf1 k (by omega))))))⟩)
            obtain ⟨fm0, y690, u690⟩ := id hMp
            exact loop (obLen (obCar (obCdr (obCdr X)))).toNat w t n sN fZ z_22 (obCar (obCdr (obCdr X))) [] 0 nk fm0 _ _ _ _ _ _ rfl hR Ext.rf z_22v (by have := obLen_ge (obCar (obCdr (obCdr X))); omega) (by have := lsO_len (R0 := (obCar (obCdr (obCdr X)))) (by have := obLen_ge (obCar (obCdr (obCdr X))); omega); show 0 + _ ≤ 1000; omega) (by rw [h0]; exact congrArg (fun q => (b, some q)) (cellM h7 h10 h40)) hEv y690 u690 trivial (Nat.zero_le _) (by show n + (((fu : Nat) : Int) - ((0 : Nat) : Int)) ≤ n + ((fu : Nat) : Int) + 4 * (((0 : Nat)) : Int); omega) (Nat.le_refl _) rfl (fun _ _ => rfl)
          · have e2 : obLen (plD d).2.1 = obLen d.2.1 := rfl
            refine pw_iconst C dX10_map_66 ?_
            exact pw_iret C hr dX10_map_67 (rCc.of (R0 := (2, none, 0, 0, nk)) (mpC_2 (by omega) hbb hdl (by omega)) ⟨x, t, n, sN, fZ, rfl, ⟨h0, hR, hK, hD, ⟨hBt, hWk, hIt, hEv, hTp, hTl, hMp⟩, hO, h7, h10, h32, h37, h39, h40, h41, h45, h47, h69, h38⟩, Ext.rf, by omega, by omega, ⟨rfl, rfl, rfl⟩, fun k hk => rfl⟩)
        · refine pw_iconst C dX10_map_54 ?_
          exact pw_iret C hr dX10_map_55 (rCc.of (R0 := (3, none, 0, 0, nk)) (mpC_3 (by omega) hbb (oIx_no (by omega))) ⟨x, t, n, sN, fZ, rfl, ⟨h0, hR, hK, hD, ⟨hBt, hWk, hIt, hEv, hTp, hTl, hMp⟩, hO, h7, h10, h32, h37, h39, h40, h41, h45, h47, h69, h38⟩, Ext.rf, by omega, by omega, ⟨rfl, rfl, rfl⟩, fun k hk => rfl⟩)
      · refine pw_iconst C dX10_map_36 ?_
        exact pw_iret C hr dX10_map_37 (rCc.of (R0 := (2, none, 0, 0, nk)) (mpC_no (by omega) (fun e => by rw [h_17] at e; cases e.1)) ⟨x, t, n, sN, fZ, rfl, ⟨h0, hR, hK, hD, ⟨hBt, hWk, hIt, hEv, hTp, hTl, hMp⟩, hO, h7, h10, h32, h37, h39, h40, h41, h45, h47, h69, h38⟩, Ext.rf, by omega, by omega, ⟨rfl, rfl, rfl⟩, fun k hk => rfl⟩)

