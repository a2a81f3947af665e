theorem VlsI.add0 {t : Int → Ob} {n : Int} {f : Int → Int} {z : Int} {v : Ob} {L : List Ob} (hz : Vl t n z v) (h : VlsI t n f 0 L) : VlsI t n (upz f ((L.length : Nat) : Int) z) 0 (L ++ [v]) := by
  have := VlsI.add hz h
  rw [Int.zero_add] at this
  exact this
theorem has_mem {q : Ob} : ∀ {e : Bds}, eHas e q = true ↔ q ∈ e.map Prod.fst
  | [] => by simp [eHas]
  | a :: e => by
    simp only [eHas, List.map_cons, List.mem_cons]
    by_cases c : a.1 = q
    · rw [if_pos c]; simp [c]
    · rw [if_neg c, has_mem]
      constructor
      · exact Or.inr
      · rintro (h | h)
        · exact absurd h.symm c
        · exact h
def wtC (T : List Dn) (fu nk : Nat) (X : Ob) : Cr := if obLen X = 3 then (match bVs (obCar (obCdr X)) with | none => (2, none, 0, 0, nk) | some Vs => evC T fu nk Vs (obCar (obCdr X)) (obCar (obCdr (obCdr X)))) else (2, none, 0, 0, nk)
theorem wtC_len {T : List Dn} {fu nk : Nat} {X : Ob} (h : obLen X ≠ 3) : wtC T fu nk X = (2, none, 0, 0, nk) := by unfold wtC; rw [if_neg h]
theorem wtC_no {T : List Dn} {fu nk : Nat} {X : Ob} (h : obLen X = 3) (hb : bVs (obCar (obCdr X)) = none) : wtC T fu nk X = (2, none, 0, 0, nk) := by unfold wtC; rw [if_pos h, hb]
theorem wtC_yes {T : List Dn} {fu nk : Nat} {X Vs : Ob} (h : obLen X = 3) (hb : bVs (obCar (obCdr X)) = some Vs) : wtC T fu nk X = evC T fu nk Vs (obCar (obCdr X)) (obCar (obCdr (obCdr X))) := by unfold wtC; rw [if_pos h, hb]
theorem bEnv_pp {Q : Ob} (h : obP Q = true) : bEnv Q = (obCar (obCar Q), obCar (obCdr (obCar Q))) :: bEnv (obCdr Q) := by cases Q <;> first | rfl | cases h
theorem bEnv_nn {Q : Ob} (h : obP Q = false) : bEnv Q = [] := by cases Q <;> first | rfl | cases h
theorem bvF_np {Q acc : Ob} (h : obP Q = false) : bvF Q acc = some acc := by cases Q <;> first | rfl | cases h
theorem ls_1000 {X : Ob} {k : Nat} (h : (nd2 X).1 ≤ k) : (lsO X).length ≤ k := by
  cases X with
  | add a c =>
    have := ls_nd c
    simp only [nd2] at h
    simp only [lsO, List.length_cons]
    omega
  | _ => exact Nat.zero_le _
set_option maxRecDepth 100000 in
set_option maxHeartbeats 4000000 in
/-- with -/
theorem m_X10_with (g : pw_P) (l : Launch) {w : pw_W} {b : Nat} {B : Nat → Nat} {x : Nat → Int} {t : Int → Ob} {n : Int} {sN : Nat} {fZ : Int → Int} {T : List Dn} {fu : Nat} (hC : CmW g w b B x t n sN fZ (plT T) [] fu 0 0 0) {o : Int} {X : Ob} (ho : Vl t n o X) (hfu : fu ≤ 1000) (hTo0 : TOk T) (hTn0 : TNs T) (hnd : (nd2 X).1 ≤ 1000) {nk : Nat} (hcap : n + 4020 ≤ 40000) : pw_M g l yX10_with cX10_with 6 (some .int) { frames := 7, cells := 0, slots := 0, locals := 159 } [.ref b, .int (iZ o)] w (fun r w' => rCc g w w' b B x t n sN fu (plT T) (wtC T fu nk X) 4010 r) := by
  refine pw_M.of (by decide) (Nat.le_of_ble_eq_true rfl) rfl ?_
  intro p e s m args below meth c C hr hn
  obtain ⟨h0, hR, hK, hD, ⟨hBt, hWk, hIt, hEv, hTp, hTl, hMp⟩, hO, h7, h10, h32, h37, h39, h40, h41, h45, h47, h69, h38⟩ := id hC
  have hRn := hR.n
  have hor := Vl.rg hR ho
  have hTo := hTo0.pl
  have hTn := hTn0.pl
  have hDl : ∀ d ∈ plT T, 0 ≤ obLen d.2.1 := fun d hd => (hTo d hd).2.1
  have hT6 : ∀ d ∈ plT T, obLen d.2.1 ≤ 6 := fun d hd => (hTo d hd).2.2.1
  obtain ⟨fL, fR, fH, fV, l0, l1, l4, l5, ⟨m0, m1, m4, m5⟩, hln⟩ := RS.lens hR
  refine pw_aload_n (i := 0) C dX10_with_0 rfl rfl (Or.inr ⟨_, rfl⟩) ?_
  refine pw_iload_n (i := 1) C dX10_with_1 rfl rfl ?_
  refine pw_callV (As := [.int (iZ o)]) (st := []) C (m_X10_lengthOf g l h0 hR h7 h10 hK ho) my_X10_lengthOf ml_X10_325 (pw_rec.of C h0 cl_X10.1) rfl ⟨Nat.le_of_ble_eq_true rfl, Nat.le_of_ble_eq_true rfl⟩ ⟨by (try dsimp only); omega, by (try dsimp only); omega⟩ rfl (Nat.le_of_ble_eq_true rfl) dX10_with_2 ?_
  rintro _ _ ⟨rfl, rfl⟩
  refine pw_stk (st' := [.int (iZ (obLen X))]) rfl ?_
  have g_11 := obLen_rg hR ho
  refine pw_iconst C dX10_with_5 ?_
  refine pw_icmp_ne (tgt := 23) C (by omega) (by omega) dX10_with_6 (by decide) (fun h_12 => ?_) (fun h_12 => ?_)
  · refine pw_iconst C dX10_with_23 ?_
    exact pw_iret C hr dX10_with_24 (rCc.of (R0 := (2, none, 0, 0, nk)) (wtC_len (by omega)) ⟨x, t, n, sN, fZ, rfl, ⟨h0, hR, hK, hD, ⟨hBt, hWk, hIt, hEv, hTp, hTl, hMp⟩, hO, h7, h10, h32, h37, h39, h40, h41, h45, h47, h69, h38⟩, Ext.rf, by omega, by omega, ⟨rfl, rfl, rfl⟩, fun k hk => rfl⟩)
  · refine pw_aload_n (i := 0) C dX10_with_9 rfl rfl (Or.inr ⟨_, rfl⟩) ?_
    refine pw_aload_n (i := 0) C dX10_with_10 rfl rfl (Or.inr ⟨_, rfl⟩) ?_
    refine pw_iload_n (i := 1) C dX10_with_11 rfl rfl ?_
    refine pw_iconst C dX10_with_12 ?_
    refine pw_callV (As := [.int (iZ o), .int (iZ 1)]) (st := [.ref b]) C (m_X10_nth g l h0 hR h7 h10 hK ho (i := 1) (by omega) (fun q hq => ln_p (k := 3) (by omega) q (by omega))) my_X10_nth ml_X10_292 (pw_rec.of C h0 cl_X10.1) rfl ⟨Nat.le_of_ble_eq_true rfl, Nat.le_of_ble_eq_true rfl⟩ ⟨by (try dsimp only); omega, by (try dsimp only); omega⟩ rfl (Nat.le_of_ble_eq_true rfl) dX10_with_13 ?_
    rintro _ _ ⟨rfl, z_13, rfl, z_13q⟩
    have z_13v : Vl t n z_13 (obCar (obCdr X)) := z_13q
    have z_13r := Vl.rg hR z_13v
    refine pw_stk (st' := [.int (iZ z_13), .ref b]) rfl ?_
    refine pw_callV (As := [.int (iZ z_13)]) (st := []) C (m_X10_lengthOf g l h0 hR h7 h10 hK z_13v) my_X10_lengthOf ml_X10_325 (pw_rec.of C h0 cl_X10.1) rfl ⟨Nat.le_of_ble_eq_true rfl, Nat.le_of_ble_eq_true rfl⟩ ⟨by (try dsimp only); omega, by (try dsimp only); omega⟩ rfl (Nat.le_of_ble_eq_true rfl) dX10_with_16 ?_
    rintro _ _ ⟨rfl, rfl⟩
    refine pw_stk (st' := [.int (iZ (obLen (obCar (obCdr X))))]) rfl ?_
    have g_14 := obLen_rg hR z_13v
    refine pw_iconst C dX10_with_19 ?_
    refine pw_icmp_ne (tgt := 25) C (by omega) (by omega) dX10_with_20 (by decide) (fun h_15 => ?_) (fun h_15 => ?_)
    · refine pw_aload_n (i := 0) C dX10_with_25 rfl rfl (Or.inr ⟨_, rfl⟩) ?_
      refine pw_iconst C dX10_with_26 ?_
      refine pw_put (j := 54) C cl_X10 fl_X10_439 (by decide) rfl rfl rfl rfl rfl h0 (Nat.le_of_ble_eq_true rfl) dX10_with_27 (fun w_18 k_16 o_17 => ?_)
      have k_19 : w_18 1000 = (b, some (mdE B (va_up x 54 0))) := k_16
      refine pw_aload_n (i := 0) C dX10_with_30 rfl rfl (Or.inr ⟨_, rfl⟩) ?_
      refine pw_iload_n (i := 1) C dX10_with_31 rfl rfl ?_
      refine pw_iconst C dX10_with_32 ?_
      have R_20 := hR.same (w' := w_18) (fun k hk => (o_17 k (by omega)))
      refine pw_callV (As := [.int (iZ o), .int (iZ 1)]) (st := []) C (m_X10_nth g l k_19 R_20 h7 h10 hK ho (i := 1) (by omega) (fun q hq => ln_p (k := 3) (by omega) q (by omega))) my_X10_nth ml_X10_292 (pw_rec.of C k_19 cl_X10.1) rfl ⟨Nat.le_of_ble_eq_true rfl, Nat.le_of_ble_eq_true rfl⟩ ⟨by (try dsimp only); omega, by (try dsimp only); omega⟩ rfl (Nat.le_of_ble_eq_true rfl) dX10_with_33 ?_
      rintro _ _ ⟨rfl, z_21, rfl, z_21q⟩
      have z_21v : Vl t n z_21 (obCar (obCdr X)) := z_21q
      have z_21r := Vl.rg R_20 z_21v
      refine pw_stk (st' := [.int (iZ z_21)]) rfl ?_
      refine pw_istore_n (i := 2) (lv' := [(0, .ref b), (1, .int (iZ o)), (2, .int (iZ z_21))]) C dX10_with_36 rfl (by decide) rfl ?_
      have hX3 : obLen X = 3 := by omega
      have hndz : (nd2 (obCar (obCdr (obCdr X)))).1 ≤ 1000 := (nd2_at hnd 1 (fun i hi => ln_p (k := 3) (by omega) (i + 1) (by omega))).1
      have hnd1 : (nd2 (obCar (obCdr X))).1 ≤ 1000 := nd2_a hnd (ln_p (k := 3) (by omega) 1 (by omega))
      have hl1 : (lsO (obCar (obCdr X))).length ≤ 1000 := ls_1000 hnd1
      have loop : ∀ (kk : Nat) (w1 : pw_W) (k : Int) (Q acc : Ob) (be : Bds), (obLen Q).toNat = kk → Vl t n k Q → 0 ≤ obLen Q → be.length + kk ≤ 1000 → w1 1000 = (b, some (mdE B (va_up x 54 ((be.length : Nat) : Int)))) → BdM g w1 B t n be → (∀ q, obEl q acc = true ↔ q ∈ be.map Prod.fst) → bvF Q acc = bvF (obCar (obCdr X)) oNil → be ++ bEnv Q = bEnv (obCar (obCdr X)) → (∀ q, (q ≠ 1000 ∧ q ≠ 1053 ∧ q ≠ 1054) → w1 q = w q) → pw_G g p l e { frames := 7, cells := 0, slots := 0, locals := 159 } s m args below meth c 6 (pw_Q g below (fun r w' => rCc g w w' b B x t n sN fu (plT T) (wtC T fu nk X) 4010 r) args s { frames := 7, cells := 0, slots := 0, locals := 159 }) 0 0 37 [(0, .ref b), (1, .int (iZ o)), (2, .int (iZ k))] [] w1 := by
        intro kk
        induction kk with
        | zero =>
          intro w1 k Q acc be hkk hk hl0 hbl y0 hBd1 hacc hbv hbe2 hf1
          have hkr := Vl.rg hR hk
          have hTp1 := hBd1.tp
          obtain ⟨f1, f2, t1, t2, t3, t4, hT1, hT2, hbe⟩ := id hBd1
          have hp : obP Q = false := by
            cases hb : obP Q with
            | false => rfl
            | true => have := obLen_cdr hb hl0; omega
          have hk0 : k = 0 := (RS.inj hR hk hK.nil).mpr (obLen_np hp hl0).1
          have hbs : bVs (obCar (obCdr X)) = some acc := by unfold bVs; rw [if_neg (by omega), ← hbv, bvF_np hp]
          have hbeq : be = bEnv (obCar (obCdr X)) := by rw [← hbe2, bEnv_nn hp, List.append_nil]
          refine pw_iload_n (i := 2) C dX10_with_37 rfl rfl ?_
          refine pw_if_eq (tgt := 173) C (by omega) dX10_with_38 (by decide) (fun h_3001 => ?_) (fun h_3001 => ?_)
          · refine pw_aload_n (i := 0) C dX10_with_173 rfl rfl (Or.inr ⟨_, rfl⟩) ?_
            refine pw_aload_n (i := 0) C dX10_with_174 rfl rfl (Or.inr ⟨_, rfl⟩) ?_
            refine pw_iload_n (i := 1) C dX10_with_175 rfl rfl ?_
            refine pw_iconst C dX10_with_176 ?_
            have R_3002 := hR.same (w' := w1) (fun k hk => (hf1 k (by omega)))
            refine pw_callV (As := [.int (iZ o), .int (iZ 2)]) (st := [.ref b]) C (m_X10_nth g l y0 R_3002 h7 h10 hK ho (i := 2) (by omega) (fun q hq => ln_p (k := 3) (by omega) q (by omega))) my_X10_nth ml_X10_292 (pw_rec.of C y0 cl_X10.1) rfl ⟨Nat.le_of_ble_eq_true rfl, Nat.le_of_ble_eq_true rfl⟩ ⟨by (try dsimp only); omega, by (try dsimp only); omega⟩ rfl (Nat.le_of_ble_eq_true rfl) dX10_with_177 ?_
            rintro _ _ ⟨rfl, z_3003, rfl, z_3003q⟩
            have z_3003v : Vl t n z_3003 (obCar (obCdr (obCdr X))) := z_3003q
            have z_3003r := Vl.rg R_3002 z_3003v
            refine pw_stk (st' := [.int (iZ z_3003), .ref b]) rfl ?_
            have G_3004 := hBt.same (w' := w1) (fun k hk => (hf1 k (by omega)))
            have D_3005 := hD.same (w' := w1) (fun k hk => (hf1 k (by omega))) Ext.rf
            obtain ⟨q_3006a, q_3006b, q_3006c, q_3006d, q_3006h⟩ := G_3004
            refine pw_callV (As := [.int (iZ z_3003)]) (st := []) C (m_X10_termOf g l y0 R_3002 h7 h10 hK D_3005 h32 z_3003v hTn hDl (cm := -1) (cn := x 38) (Or.inl ⟨rfl, rfl⟩) hTn hT6 h38 h37 ⟨by decide, by decide⟩ rfl h45 h47 q_3006h hndz (by have := hndz; omega)) my_X10_termOf ml_X10_430 (pw_rec.of C y0 cl_X10.1) rfl ⟨Nat.le_of_ble_eq_true rfl, Nat.le_of_ble_eq_true rfl⟩ ⟨by (try dsimp only); omega, by (try dsimp only); omega⟩ rfl (Nat.le_of_ble_eq_true rfl) dX10_with_180 ?_
            rintro _ w_3018 ⟨z_3007, t_3008, n_3009, sN_3010, Z_3011, f_3021, f_3022, f_3023, f_3024, rfl, e_3012, R_3013, x_3014, hn_3015, hs_3016, hv_3020, A_3019, o_3017⟩
            have x_30141 := x_3014.1
            have R_3013n := R_3013.n
            have z_3007d := hndz
            have v_3025 := Vl.ext ho x_3014
            have v_3026 := Vl.ext hk x_3014
            have v_3027 := Vl.ext z_3003v x_3014
            have K_3028 := RK.ext hK x_3014
            have G_3029 : gBt g w_3018 B := ⟨f_3021, f_3022, f_3023, f_3024, A_3019⟩
            have z_3007r : -1 ≤ z_3007 ∧ z_3007 < 40000 := by
              split at hv_3020
              · have := Vl.rg R_3013 hv_3020; omega
              · omega
            refine pw_stk (st' := [.int (iZ z_3007)]) rfl ?_
            refine pw_istore_n (i := 2) (lv' := [(0, .ref b), (1, .int (iZ o)), (2, .int (iZ z_3007))]) C dX10_with_183 rfl (by decide) rfl ?_
            refine pw_iload_n (i := 2) C dX10_with_184 rfl rfl ?_
            refine pw_iconst C dX10_with_185 ?_
            refine pw_icmp_ne (tgt := 191) C (by omega) (by omega) dX10_with_186 (by decide) (fun h_3030 => ?_) (fun h_3030 => ?_)
            · have hyes : isTm (plT T) va1 (obCar (obCdr (obCdr X))) = true := by
                cases hb : isTm (plT T) va1 (obCar (obCdr (obCdr X))) with
                | true => rfl
                | false => rw [hb] at hv_3020; have : z_3007 = -1 := hv_3020; omega
              rw [hyes, if_pos rfl] at hv_3020
              have z_3007r := Vl.rg R_3013 hv_3020
              have hyesp := isTm_pl hyes
              refine pw_aload_n (i := 0) C dX10_with_191 rfl rfl (Or.inr ⟨_, rfl⟩) ?_
              refine pw_iload_n (i := 2) C dX10_with_192 rfl rfl ?_
              have G_3031 := hWk.same (w' := w_3018) (fun k hk => (o_3017 k (by omega)).trans (hf1 k (by omega)))
              have G_3032 := hIt.same (w' := w_3018) (fun k hk => (o_3017 k (by omega)).trans (hf1 k (by omega)))
              obtain ⟨q_3033a, q_30331, q_30332⟩ := G_3031
              obtain ⟨q_3033b, q_30333, q_30334⟩ := G_3032
              refine pw_callV (As := [.int (iZ z_3007)]) (st := []) C (m_X10_variablesOf g l e_3012 R_3013 rfl rfl K_3028 hv_3020 q_30331 q_30332 q_30333 q_30334 hyesp.1 hyesp.2) my_X10_variablesOf ml_X10_414 (pw_rec.of C e_3012 cl_X10.1) rfl ⟨Nat.le_of_ble_eq_true rfl, Nat.le_of_ble_eq_true rfl⟩ ⟨by (try dsimp only); omega, by (try dsimp only); omega⟩ rfl (Nat.le_of_ble_eq_true rfl) dX10_with_193 ?_
              rintro _ w7 ⟨rfl, ⟨v7, fw7, I, y7, y49, g49, ⟨fi, y51, g51, hI⟩, hIl, hall⟩, hf7⟩
              have G_3034 : gWk g w7 B := ⟨fw7, y49, g49⟩
              have G_3035 : gIt g w7 B := ⟨fi, y51, g51⟩
              refine pw_stk (st' := []) rfl ?_
              refine pw_iconst C dX10_with_196 ?_
              refine pw_istore_n (i := 3) (lv' := [(0, .ref b), (1, .int (iZ o)), (2, .int (iZ z_3007)), (3, .int (iZ 0))]) C dX10_with_197 rfl (by decide) rfl ?_
              have loop2 : ∀ (kk k : Nat), k + kk = I.length → (I.drop k).all (fun q => obEl q acc) = (vr2 (fun q => obEl q acc) (pl2 (obCar (obCdr (obCdr X)))).1).1 → pw_G g p l e { frames := 7, cells := 0, slots := 0, locals := 159 } s m args below meth c 6 (pw_Q g below (fun r w' => rCc g w w' b B x t n sN fu (plT T) (wtC T fu nk X) 4010 r) args s { frames := 7, cells := 0, slots := 0, locals := 159 }) 0 0 198 [(0, .ref b), (1, .int (iZ o)), (2, .int (iZ z_3007)), (3, .int (iZ ((k : Nat) : Int)))] [] w7 := by
                intro kk
                induction kk with
                | zero =>
                  intro k hk2 hqa
                  refine pw_iload_n (i := 3) C dX10_with_198 rfl rfl ?_
                  refine pw_aload_n (i := 0) C dX10_with_199 rfl rfl (Or.inr ⟨_, rfl⟩) ?_
                  refine pw_get (j := 51) C cl_X10 fl_X10_353 (by decide) rfl y7 rfl dX10_with_200 ?_
                  refine pw_stk (st' := [.int (iZ ((I.length : Nat) : Int)), .int (iZ ((k : Nat) : Int))]) rfl ?_
                  refine pw_icmp_ge (tgt := 268) C (by omega) (by omega) dX10_with_203 (by decide) (fun h_3336 => ?_) (fun h_3336 => ?_)
                  · refine pw_aload_n (i := 0) C dX10_with_268 rfl rfl (Or.inr ⟨_, rfl⟩) ?_
                    refine pw_iload_n (i := 2) C dX10_with_269 rfl rfl ?_
                    have hit : isTm T (fun q => obEl q acc) (obCar (obCdr (obCdr X))) = true := by rw [isTm_ref T _ _ (by rw [← isTm_plT]; exact hyes), ← hqa, show I.drop k = [] from List.drop_eq_nil_iff.mpr (by omega)]; rfl
                    have hwv := ev_wf (B0 := (obCar (obCdr X))) hit (fun q hq => by rw [← hbeq]; exact has_mem.mpr ((hacc q).mp hq))
                    have R_3337 := R_3013.same (w' := w7) (fun k hk => (hf7 k (by omega)))
                    have D_3338 := D_3005.same (w' := w7) (fun k hk => (hf7 k (by omega)).trans (o_3017 k (by omega))) x_3014
                    have G_3339 := G_3029.same (w' := w7) (fun k hk => (hf7 k (by omega)))
                    have G_3340 := hEv.same (w' := w7) (fun k hk => (hf7 k (by omega)).trans ((o_3017 k (by omega)).trans (hf1 k (by omega))))
                    have G_3341 := hTp1.same (w' := w7) (fun k hk => (hf7 k (by omega)).trans (o_3017 k (by omega)))
                    have G_3342 := hTl.same (w' := w7) (fun k hk => (hf7 k (by omega)).trans ((o_3017 k (by omega)).trans (hf1 k (by omega))))
                    have G_3343 := hMp.same (w' := w7) (fun k hk => (hf7 k (by omega)).trans ((o_3017 k (by omega)).trans (hf1 k (by omega))))
                    have hCt : CmW g w7 b B (va_up (va_up (va_up (va_up (va_up x 54 ((be.length : Nat) : Int)) 7 n_3009) 10 ((sN_3010 : Nat) : Int)) 49 v7) 51 ((I.length : Nat) : Int)) t_3008 n_3009 sN_3010 Z_3011 (plT T) [] fu 0 0 0 := ⟨y7, R_3337, K_3028, D_3338, ⟨G_3339, G_3034, G_3035, G_3340, G_3341, G_3342, G_3343⟩, (hO.same ((hf7 1015 (by omega)).trans ((o_3017 1015 (by omega)).trans (hf1 1015 (by omega))))), rfl, rfl, h32, h37, h39, h40, h41, h45, h47, h69, h38⟩
                    obtain ⟨R9, hR9⟩ : ∃ R9, mRun (plT T) fu 30000 0 ((pl2 (obCar (obCdr (obCdr X)))).1) (bEnv (obCar (obCdr X))) [] 0 nk = R9 := ⟨_, rfl⟩
                    have hrn := ev_ref (fu := fu) (nk := nk) hTo0 hwv.1
                    rw [hR9] at hrn
                    refine pw_callV (As := [.int (iZ z_3007)]) (st := []) C (m_X10_toldValue g l hCt hv_3020 (be := (bEnv (obCar (obCdr X)))) (by rw [← hbeq]; exact hBd1.same (fun k hk => (hf7 k (by omega)).trans (o_3017 k (by omega))) x_3014) hfu hTo hTn hwv.2 (by omega) hR9) my_X10_toldValue ml_X10_436 (pw_rec.of C y7 cl_X10.1) rfl ⟨Nat.le_of_ble_eq_true rfl, Nat.le_of_ble_eq_true rfl⟩ ⟨by (try dsimp only); omega, by (try dsimp only); omega⟩ rfl (Nat.le_of_ble_eq_true rfl) dX10_with_270 ?_
                    rintro _ w_3344 ⟨x9, t9, n9, s9, Z9, rfl, hC9, hx9, hn9, hs9, hk9, hf9⟩
                    refine pw_stk (st' := [.int (iZ (if R9.1 = 0 then 0 else 4))]) rfl ?_
                    exact pw_iret C hr dX10_with_273 (rCc.of (wtC_yes hX3 hbs) (rCc.ev hit hrn (rCo.tr x_3014 (c1 := 3010) (by omega) (by omega) ⟨rfl, rfl, rfl⟩ (fun k hk => (hf7 k (by omega)).trans ((o_3017 k (by omega)).trans (hf1 k (by omega)))) ⟨x9, t9, n9, s9, Z9, rfl, hC9, hx9, hn9, hs9, hk9, hf9⟩ (by omega))))
                  · exfalso; omega
                | succ kk ih2 =>
                  intro k hk2 hqa
                  obtain ⟨u, hu⟩ : ∃ u, I[k]? = some u := ⟨_, List.getElem?_eq_getElem (by omega)⟩
                  have huv := VlsI.mem k hI hu
                  rw [Int.zero_add] at huv
                  have hur := Vl.rg R_3013 huv
                  have hdk := drop1 hu
                  refine pw_iload_n (i := 3) C dX10_with_198 rfl rfl ?_
                  refine pw_aload_n (i := 0) C dX10_with_199 rfl rfl (Or.inr ⟨_, rfl⟩) ?_
                  refine pw_get (j := 51) C cl_X10 fl_X10_353 (by decide) rfl y7 rfl dX10_with_200 ?_
                  refine pw_stk (st' := [.int (iZ ((I.length : Nat) : Int)), .int (iZ ((k : Nat) : Int))]) rfl ?_
                  refine pw_icmp_ge (tgt := 268) C (by omega) (by omega) dX10_with_203 (by decide) (fun h_3645 => ?_) (fun h_3645 => ?_)
                  · exfalso; omega
                  · refine pw_iconst C dX10_with_206 ?_
                    refine pw_istore (lv' := [(0, .ref b), (1, .int (iZ o)), (2, .int (iZ z_3007)), (3, .int (iZ ((k : Nat) : Int))), (4, .int (iZ 0))]) C dX10_with_207 (by decide) rfl ?_
                    refine pw_iconst C dX10_with_209 ?_
                    refine pw_istore (lv' := [(0, .ref b), (1, .int (iZ o)), (2, .int (iZ z_3007)), (3, .int (iZ ((k : Nat) : Int))), (4, .int (iZ 0)), (5, .int (iZ 0))]) C dX10_with_210 (by decide) rfl ?_
                    have inner : ∀ (jj j : Nat) (th : Bool), j + jj = be.length → (th = true ↔ ∃ (i : Nat) (q : Ob × Ob), i < j ∧ be[i]? = some q ∧ q.1 = u) → pw_G g p l e { frames := 7, cells := 0, slots := 0, locals := 159 } s m args below meth c 6 (pw_Q g below (fun r w' => rCc g w w' b B x t n sN fu (plT T) (wtC T fu nk X) 4010 r) args s { frames := 7, cells := 0, slots := 0, locals := 159 }) 0 0 212 [(0, .ref b), (1, .int (iZ o)), (2, .int (iZ z_3007)), (3, .int (iZ ((k : Nat) : Int))), (4, .int (iZ (b2i th))), (5, .int (iZ ((j : Nat) : Int)))] [] w7 := by
                      intro jj
                      induction jj with
                      | zero =>
                        intro j th hj hth
                        refine pw_iload C dX10_with_212 rfl ?_
                        refine pw_aload_n (i := 0) C dX10_with_214 rfl rfl (Or.inr ⟨_, rfl⟩) ?_
                        refine pw_get (j := 54) C cl_X10 fl_X10_439 (by decide) rfl y7 rfl dX10_with_215 ?_
                        refine pw_stk (st' := [.int (iZ ((be.length : Nat) : Int)), .int (iZ ((j : Nat) : Int))]) rfl ?_
                        refine pw_icmp_ge (tgt := 255) C (by omega) (by omega) dX10_with_218 (by decide) (fun h_3746 => ?_) (fun h_3746 => ?_)
                        · refine pw_iload C dX10_with_255 rfl ?_
                          refine pw_if_neB (tgt := 262) C dX10_with_257 (by decide) (fun h_3747 => ?_) (fun h_3747 => ?_)
                          · refine pw_iinc (lv' := [(0, .ref b), (1, .int (iZ o)), (2, .int (iZ z_3007)), (3, .int (iZ (((k : Nat) : Int) + 1))), (4, .int (iZ (b2i th))), (5, .int (iZ ((j : Nat) : Int)))]) C dX10_with_262 rfl (by decide) rfl ?_
                            refine pw_goto (tgt := 198) C dX10_with_265 (by decide) ?_
                            refine pw_sub [0, 1, 2, 3] rfl ?_
                            rw [show ((k : Nat) : Int) + 1 = ((k + 1 : Nat) : Int) by omega]
                            obtain ⟨i9, q9, c1, c2, c3⟩ := hth.mp h_3747
                            have hel : obEl u acc = true := (hacc u).mpr (List.mem_map.mpr ⟨q9, List.mem_of_getElem? c2, c3⟩)
                            exact ih2 (k + 1) (by omega) (by rw [← hqa, hdk, List.all_cons]; show _ = (obEl u acc && _); rw [hel, Bool.true_and])
                          · have hel : obEl u acc = false := by
                              cases hb : obEl u acc with
                              | false => rfl
                              | true =>
                                obtain ⟨q9, c1, c2⟩ := List.mem_map.mp ((hacc u).mp hb)
                                obtain ⟨i9, c3⟩ := List.mem_iff_getElem?.mp c1
                                have := hth.mpr ⟨i9, q9, by have := (List.getElem?_eq_some_iff.mp c3).1; omega, c3, c2⟩; rw [h_3747] at this; cases this
                            have hnot : isTm T (fun q => obEl q acc) (obCar (obCdr (obCdr X))) = false := by rw [isTm_ref T _ _ (by rw [← isTm_plT]; exact hyes), ← hqa, hdk, List.all_cons]; show (obEl u acc && _) = false; rw [hel, Bool.false_and]
                            refine pw_iconst C dX10_with_260 ?_
                            have R_3748 := R_3013.same (w' := w7) (fun k hk => (hf7 k (by omega)))
                            have D_3749 := D_3005.same (w' := w7) (fun k hk => (hf7 k (by omega)).trans (o_3017 k (by omega))) x_3014
                            have G_3750 := G_3029.same (w' := w7) (fun k hk => (hf7 k (by omega)))
                            have G_3751 := hEv.same (w' := w7) (fun k hk => (hf7 k (by omega)).trans ((o_3017 k (by omega)).trans (hf1 k (by omega))))
                            have G_3752 := hTp1.same (w' := w7) (fun k hk => (hf7 k (by omega)).trans (o_3017 k (by omega)))
                            have G_3753 := hTl.same (w' := w7) (fun k hk => (hf7 k (by omega)).trans ((o_3017 k (by omega)).trans (hf1 k (by omega))))
                            have G_3754 := hMp.same (w' := w7) (fun k hk => (hf7 k (by omega)).trans ((o_3017 k (by omega)).trans (hf1 k (by omega))))
                            exact pw_iret C hr dX10_with_261 (rCc.of (R0 := (2, none, 0, 0, nk)) ((wtC_yes hX3 hbs).trans (evC_no hnot)) ⟨(va_up (va_up (va_up (va_up (va_up x 54 ((be.length : Nat) : Int)) 7 n_3009) 10 ((sN_3010 : Nat) : Int)) 49 v7) 51 ((I.length : Nat) : Int)), t_3008, n_3009, sN_3010, Z_3011, rfl, ⟨y7, R_3748, K_3028, D_3749, ⟨G_3750, G_3034, G_3035, G_3751, G_3752, G_3753, G_3754⟩, (hO.same ((hf7 1015 (by omega)).trans ((o_3017 1015 (by omega)).trans (hf1 1015 (by omega))))), rfl, rfl, h32, h37, h39, h40, h41, h45, h47, h69, h38⟩, x_3014, by omega, by omega, ⟨rfl, rfl, rfl⟩, fun k hk => (hf7 k (by omega)).trans ((o_3017 k (by omega)).trans (hf1 k (by omega)))⟩)
                        · exfalso; omega
                      | succ jj ihj =>
                        intro j th hj hth
                        obtain ⟨q, hq⟩ : ∃ q, be[j]? = some q := ⟨_, List.getElem?_eq_getElem (by omega)⟩
                        have hqv := (VlsI.mapf hT1 hq).ext x_3014
                        rw [Int.zero_add] at hqv
                        have hqr := Vl.rg R_3013 hqv
                        refine pw_iload C dX10_with_212 rfl ?_
                        refine pw_aload_n (i := 0) C dX10_with_214 rfl rfl (Or.inr ⟨_, rfl⟩) ?_
                        refine pw_get (j := 54) C cl_X10 fl_X10_439 (by decide) rfl y7 rfl dX10_with_215 ?_
                        refine pw_stk (st' := [.int (iZ ((be.length : Nat) : Int)), .int (iZ ((j : Nat) : Int))]) rfl ?_
                        refine pw_icmp_ge (tgt := 255) C (by omega) (by omega) dX10_with_218 (by decide) (fun h_3855 => ?_) (fun h_3855 => ?_)
                        · exfalso; omega
                        · refine pw_iload C dX10_with_221 rfl ?_
                          refine pw_if_neB (tgt := 242) C dX10_with_223 (by decide) (fun h_3856 => ?_) (fun h_3856 => ?_)
                          · obtain ⟨i9, q9, c1, c2, c3⟩ := hth.mp h_3856
                            refine pw_iconst C dX10_with_242 ?_
                            refine pw_goto (tgt := 247) C dX10_with_243 (by decide) ?_
                            refine pw_istore (lv' := [(0, .ref b), (1, .int (iZ o)), (2, .int (iZ z_3007)), (3, .int (iZ ((k : Nat) : Int))), (4, .int (iZ 1)), (5, .int (iZ ((j : Nat) : Int)))]) C dX10_with_247 (by decide) rfl ?_
                            refine pw_iinc (lv' := [(0, .ref b), (1, .int (iZ o)), (2, .int (iZ z_3007)), (3, .int (iZ ((k : Nat) : Int))), (4, .int (iZ 1)), (5, .int (iZ (((j : Nat) : Int) + 1)))]) C dX10_with_249 rfl (by decide) rfl ?_
                            refine pw_goto (tgt := 212) C dX10_with_252 (by decide) ?_
                            rw [show ((j : Nat) : Int) + 1 = ((j + 1 : Nat) : Int) by omega]
                            exact ihj (j + 1) true (by omega) ⟨fun _ => ⟨i9, q9, by omega, c2, c3⟩, fun _ => rfl⟩
                          · refine pw_aload_n (i := 0) C dX10_with_226 rfl rfl (Or.inr ⟨_, rfl⟩) ?_
                            refine pw_get (j := 52) C cl_X10 fl_X10_110 (by decide) rfl y7 rfl dX10_with_227 ?_
                            refine pw_stk (st' := [.ref (B 52)]) rfl ?_
                            refine pw_iload C dX10_with_230 rfl ?_
                            have c_3857 := ((hf7 1053 (by omega)).trans (o_3017 1053 (by omega))).trans t1
                            have g_3858 := t3 ((j : Nat) : Int)
                            refine pw_iald C c_3857 ⟨by omega, by omega, by omega⟩ dX10_with_232 ?_
                            refine pw_aload_n (i := 0) C dX10_with_233 rfl rfl (Or.inr ⟨_, rfl⟩) ?_
                            refine pw_get (j := 50) C cl_X10 fl_X10_107 (by decide) rfl y7 rfl dX10_with_234 ?_
                            refine pw_stk (st' := [.ref (B 50), .int (iZ (f1 ((j : Nat) : Int)))]) rfl ?_
                            refine pw_iload_n (i := 3) C dX10_with_237 rfl rfl ?_
                            have g_3859 := g51 ((k : Nat) : Int)
                            refine pw_iald C y51 ⟨by omega, by omega, by omega⟩ dX10_with_238 ?_
                            refine pw_icmp_ne (tgt := 246) C (by omega) (by omega) dX10_with_239 (by decide) (fun h_3860 => ?_) (fun h_3860 => ?_)
                            · refine pw_iconst C dX10_with_246 ?_
                              refine pw_istore (lv' := [(0, .ref b), (1, .int (iZ o)), (2, .int (iZ z_3007)), (3, .int (iZ ((k : Nat) : Int))), (4, .int (iZ 0)), (5, .int (iZ ((j : Nat) : Int)))]) C dX10_with_247 (by decide) rfl ?_
                              refine pw_iinc (lv' := [(0, .ref b), (1, .int (iZ o)), (2, .int (iZ z_3007)), (3, .int (iZ ((k : Nat) : Int))), (4, .int (iZ 0)), (5, .int (iZ (((j : Nat) : Int) + 1)))]) C dX10_with_249 rfl (by decide) rfl ?_
                              refine pw_goto (tgt := 212) C dX10_with_252 (by decide) ?_
                              rw [show ((j : Nat) : Int) + 1 = ((j + 1 : Nat) : Int) by omega]
                              refine ihj (j + 1) false (by omega) ⟨(fun h => by cases h), fun ⟨i, e, hi, he, hu2⟩ => ?_⟩
                              exfalso
                              by_cases c : i = j
                              · rw [c, hq] at he; rw [← Option.some.inj he] at hu2; exact absurd ((RS.inj R_3013 hqv huv).mpr hu2) (by omega)
                              · have := hth.mpr ⟨i, e, by omega, he, hu2⟩; rw [h_3856] at this; cases this
                            · refine pw_iconst C dX10_with_242 ?_
                              refine pw_goto (tgt := 247) C dX10_with_243 (by decide) ?_
                              refine pw_istore (lv' := [(0, .ref b), (1, .int (iZ o)), (2, .int (iZ z_3007)), (3, .int (iZ ((k : Nat) : Int))), (4, .int (iZ 1)), (5, .int (iZ ((j : Nat) : Int)))]) C dX10_with_247 (by decide) rfl ?_
                              refine pw_iinc (lv' := [(0, .ref b), (1, .int (iZ o)), (2, .int (iZ z_3007)), (3, .int (iZ ((k : Nat) : Int))), (4, .int (iZ 1)), (5, .int (iZ (((j : Nat) : Int) + 1)))]) C dX10_with_249 rfl (by decide) rfl ?_
                              refine pw_goto (tgt := 212) C dX10_with_252 (by decide) ?_
                              rw [show ((j : Nat) : Int) + 1 = ((j + 1 : Nat) : Int) by omega]
                              exact ihj (j + 1) true (by omega) ⟨fun _ => ⟨j, q, by omega, hq, (RS.inj R_3013 hqv huv).mp (by omega)⟩, fun _ => rfl⟩
                    exact inner be.length 0 false (by omega) ⟨(fun h => by cases h), fun ⟨i, e, hi, _⟩ => absurd hi (by omega)⟩
              exact loop2 I.length 0 (by omega) (by rw [List.drop_zero]; exact hall _)
            · have hno : isTm (plT T) va1 (obCar (obCdr (obCdr X))) = false := by
                cases hb : isTm (plT T) va1 (obCar (obCdr (obCdr X))) with
                | false => rfl
                | true => rw [hb, if_pos rfl] at hv_3020; have := Vl.rg R_3013 hv_3020; omega
              refine pw_iconst C dX10_with_189 ?_
              have D_3861 := D_3005.same (w' := w_3018) (fun k hk => (o_3017 k (by omega))) x_3014
              have G_3862 := hWk.same (w' := w_3018) (fun k hk => (o_3017 k (by omega)).trans (hf1 k (by omega)))
              have G_3863 := hIt.same (w' := w_3018) (fun k hk => (o_3017 k (by omega)).trans (hf1 k (by omega)))
              have G_3864 := hEv.same (w' := w_3018) (fun k hk => (o_3017 k (by omega)).trans (hf1 k (by omega)))
              have G_3865 := hTp1.same (w' := w_3018) (fun k hk => (o_3017 k (by omega)))
              have G_3866 := hTl.same (w' := w_3018) (fun k hk => (o_3017 k (by omega)).trans (hf1 k (by omega)))
              have G_3867 := hMp.same (w' := w_3018) (fun k hk => (o_3017 k (by omega)).trans (hf1 k (by omega)))
              exact pw_iret C hr dX10_with_190 (rCc.of (R0 := (2, none, 0, 0, nk)) ((wtC_yes hX3 hbs).trans (evC_no (by rw [isTm_two, ← isTm_plT T va1, hno]; rfl))) ⟨(va_up (va_up (va_up x 54 ((be.length : Nat) : Int)) 7 n_3009) 10 ((sN_3010 : Nat) : Int)), t_3008, n_3009, sN_3010, Z_3011, rfl, ⟨e_3012, R_3013, K_3028, D_3861, ⟨G_3029, G_3862, G_3863, G_3864, G_3865, G_3866, G_3867⟩, (hO.same ((o_3017 1015 (by omega)).trans (hf1 1015 (by omega)))), rfl, rfl, h32, h37, h39, h40, h41, h45, h47, h69, h38⟩, x_3014, by omega, by omega, ⟨rfl, rfl, rfl⟩, fun k hk => (o_3017 k (by omega)).trans (hf1 k (by omega))⟩)
          · exfalso; omega
        | succ kk ih =>
          intro w1 k Q acc be hkk hk hl0 hbl y0 hBd1 hacc hbv hbe2 hf1
          have hkr := Vl.rg hR hk
          have hTp1 := hBd1.tp
          obtain ⟨f1, f2, t1, t2, t3, t4, hT1, hT2, hbe⟩ := id hBd1
          have hp : obP Q = true := obLen_pos (by omega)
          have hkn : k ≠ 0 := fun e => by rw [(RS.inj hR hk hK.nil).mp e] at hp; cases hp
          refine pw_iload_n (i := 2) C dX10_with_37 rfl rfl ?_
          refine pw_if_eq (tgt := 173) C (by omega) dX10_with_38 (by decide) (fun h_1001 => ?_) (fun h_1001 => ?_)
          · exfalso; omega
          · have hcc := (hln k Q hk).1 hp
            have hcr1 := Vl.rg hR hcc.1
            have hcr2 := Vl.rg hR hcc.2
            refine pw_aload_n (i := 0) C dX10_with_41 rfl rfl (Or.inr ⟨_, rfl⟩) ?_
            refine pw_aload_n (i := 0) C dX10_with_42 rfl rfl (Or.inr ⟨_, rfl⟩) ?_
            refine pw_get (j := 0) C cl_X10 fl_X10_8 (by decide) rfl y0 rfl dX10_with_43 ?_
            refine pw_stk (st' := [.ref (B 0), .ref b]) rfl ?_
            refine pw_iload_n (i := 2) C dX10_with_46 rfl rfl ?_
            have c_1002 := (hf1 1001 (by omega)).trans l0
            have g_1003 := m0 k
            refine pw_iald C c_1002 ⟨by omega, by omega, by omega⟩ dX10_with_47 ?_
            have R_1004 := hR.same (w' := w1) (fun k hk => (hf1 k (by omega)))
            refine pw_callV (As := [.int (iZ (fL k))]) (st := []) C (m_X10_lengthOf g l y0 R_1004 h7 h10 hK hcc.1) my_X10_lengthOf ml_X10_325 (pw_rec.of C y0 cl_X10.1) rfl ⟨Nat.le_of_ble_eq_true rfl, Nat.le_of_ble_eq_true rfl⟩ ⟨by (try dsimp only); omega, by (try dsimp only); omega⟩ rfl (Nat.le_of_ble_eq_true rfl) dX10_with_48 ?_
            rintro _ _ ⟨rfl, rfl⟩
            refine pw_stk (st' := [.int (iZ (obLen (obCar Q)))]) rfl ?_
            have g_1005 := obLen_rg R_1004 hcc.1
            refine pw_iconst C dX10_with_51 ?_
            refine pw_icmp_ne (tgt := 73) C (by omega) (by omega) dX10_with_52 (by decide) (fun h_1006 => ?_) (fun h_1006 => ?_)
            · refine pw_iconst C dX10_with_73 ?_
              have D_1007 := hD.same (w' := w1) (fun k hk => (hf1 k (by omega))) Ext.rf
              have G_1008 := hBt.same (w' := w1) (fun k hk => (hf1 k (by omega)))
              have G_1009 := hWk.same (w' := w1) (fun k hk => (hf1 k (by omega)))
              have G_1010 := hIt.same (w' := w1) (fun k hk => (hf1 k (by omega)))
              have G_1011 := hEv.same (w' := w1) (fun k hk => (hf1 k (by omega)))
              have G_1012 := hTl.same (w' := w1) (fun k hk => (hf1 k (by omega)))
              have G_1013 := hMp.same (w' := w1) (fun k hk => (hf1 k (by omega)))
              exact pw_iret C hr dX10_with_74 (rCc.of (R0 := (2, none, 0, 0, nk)) (wtC_no hX3 (by unfold bVs; rw [if_neg (by omega), ← hbv, bvF_p hp, if_neg (fun e => by omega)])) ⟨(va_up x 54 ((be.length : Nat) : Int)), t, n, sN, fZ, rfl, ⟨y0, R_1004, hK, D_1007, ⟨G_1008, G_1009, G_1010, G_1011, hTp1, G_1012, G_1013⟩, (hO.same ((hf1 1015 (by omega)))), h7, h10, h32, h37, h39, h40, h41, h45, h47, h69, h38⟩, Ext.rf, by omega, by omega, ⟨rfl, rfl, rfl⟩, fun k hk => (hf1 k (by omega))⟩)
            · have hp1 : obP (obCar Q) = true := obLen_pos (by omega)
              have hcv := (hln _ _ hcc.1).1 hp1
              have hcvr := Vl.rg hR hcv.1
              refine pw_aload_n (i := 0) C dX10_with_55 rfl rfl (Or.inr ⟨_, rfl⟩) ?_
              refine pw_aload_n (i := 0) C dX10_with_56 rfl rfl (Or.inr ⟨_, rfl⟩) ?_
              refine pw_get (j := 0) C cl_X10 fl_X10_8 (by decide) rfl y0 rfl dX10_with_57 ?_
              refine pw_stk (st' := [.ref (B 0), .ref b]) rfl ?_
              refine pw_aload_n (i := 0) C dX10_with_60 rfl rfl (Or.inr ⟨_, rfl⟩) ?_
              refine pw_get (j := 0) C cl_X10 fl_X10_8 (by decide) rfl y0 rfl dX10_with_61 ?_
              refine pw_stk (st' := [.ref (B 0), .ref (B 0), .ref b]) rfl ?_
              refine pw_iload_n (i := 2) C dX10_with_64 rfl rfl ?_
              have g_1014 := m0 k
              refine pw_iald C c_1002 ⟨by omega, by omega, by omega⟩ dX10_with_65 ?_
              have g_1015 := m0 (fL k)
              refine pw_iald C c_1002 ⟨by omega, by omega, by omega⟩ dX10_with_66 ?_
              refine pw_callV (As := [.int (iZ (fL (fL k)))]) (st := []) C (m_X10_isVariable g l y0 R_1004 h7 h10 hK hcv.1) my_X10_isVariable ml_X10_356 (pw_rec.of C y0 cl_X10.1) rfl ⟨Nat.le_of_ble_eq_true rfl, Nat.le_of_ble_eq_true rfl⟩ ⟨by (try dsimp only); omega, by (try dsimp only); omega⟩ rfl (Nat.le_of_ble_eq_true rfl) dX10_with_67 ?_
              rintro _ _ ⟨rfl, rfl⟩
              refine pw_stk (st' := [.int (iZ (b2i (obV (obCar (obCar Q)))))]) rfl ?_
              refine pw_if_neB (tgt := 75) C dX10_with_70 (by decide) (fun h_1016 => ?_) (fun h_1016 => ?_)
              · refine pw_iconst C dX10_with_75 ?_
                refine pw_istore_n (i := 3) (lv' := [(0, .ref b), (1, .int (iZ o)), (2, .int (iZ k)), (3, .int (iZ 0))]) C dX10_with_76 rfl (by decide) rfl ?_
                have hvk := h_1016
                have inner : ∀ (jj j : Nat), j + jj = be.length → (∀ (i : Nat) (q : Ob × Ob), i < j → be[i]? = some q → q.1 ≠ (obCar (obCar Q))) → pw_G g p l e { frames := 7, cells := 0, slots := 0, locals := 159 } s m args below meth c 6 (pw_Q g below (fun r w' => rCc g w w' b B x t n sN fu (plT T) (wtC T fu nk X) 4010 r) args s { frames := 7, cells := 0, slots := 0, locals := 159 }) 0 0 77 [(0, .ref b), (1, .int (iZ o)), (2, .int (iZ k)), (3, .int (iZ ((j : Nat) : Int)))] [] w1 := by
                  intro jj
                  induction jj with
                  | zero =>
                    intro j hj hne
                    refine pw_iload_n (i := 3) C dX10_with_77 rfl rfl ?_
                    refine pw_aload_n (i := 0) C dX10_with_78 rfl rfl (Or.inr ⟨_, rfl⟩) ?_
                    refine pw_get (j := 54) C cl_X10 fl_X10_439 (by decide) rfl y0 rfl dX10_with_79 ?_
                    refine pw_stk (st' := [.int (iZ ((be.length : Nat) : Int)), .int (iZ ((j : Nat) : Int))]) rfl ?_
                    refine pw_icmp_ge (tgt := 113) C (by omega) (by omega) dX10_with_82 (by decide) (fun h_1117 => ?_) (fun h_1117 => ?_)
                    · have hnin : obEl (obCar (obCar Q)) acc = false := by
                        cases hb : obEl (obCar (obCar Q)) acc with
                        | false => rfl
                        | true =>
                          obtain ⟨q, hq1, hq2⟩ := List.mem_map.mp ((hacc _).mp hb)
                          obtain ⟨i, hi⟩ := List.mem_iff_getElem?.mp hq1
                          exact absurd hq2 (hne i q (by have := (List.getElem?_eq_some_iff.mp hi).1; omega) hi)
                      refine pw_aload_n (i := 0) C dX10_with_113 rfl rfl (Or.inr ⟨_, rfl⟩) ?_
                      refine pw_get (j := 52) C cl_X10 fl_X10_110 (by decide) rfl y0 rfl dX10_with_114 ?_
                      refine pw_stk (st' := [.ref (B 52)]) rfl ?_
                      refine pw_aload_n (i := 0) C dX10_with_117 rfl rfl (Or.inr ⟨_, rfl⟩) ?_
                      refine pw_get (j := 54) C cl_X10 fl_X10_439 (by decide) rfl y0 rfl dX10_with_118 ?_
                      refine pw_stk (st' := [.int (iZ ((be.length : Nat) : Int)), .ref (B 52)]) rfl ?_
                      refine pw_aload_n (i := 0) C dX10_with_121 rfl rfl (Or.inr ⟨_, rfl⟩) ?_
                      refine pw_get (j := 0) C cl_X10 fl_X10_8 (by decide) rfl y0 rfl dX10_with_122 ?_
                      refine pw_stk (st' := [.ref (B 0), .int (iZ ((be.length : Nat) : Int)), .ref (B 52)]) rfl ?_
                      refine pw_aload_n (i := 0) C dX10_with_125 rfl rfl (Or.inr ⟨_, rfl⟩) ?_
                      refine pw_get (j := 0) C cl_X10 fl_X10_8 (by decide) rfl y0 rfl dX10_with_126 ?_
                      refine pw_stk (st' := [.ref (B 0), .ref (B 0), .int (iZ ((be.length : Nat) : Int)), .ref (B 52)]) rfl ?_
                      refine pw_iload_n (i := 2) C dX10_with_129 rfl rfl ?_
                      have g_1118 := m0 k
                      refine pw_iald C c_1002 ⟨by omega, by omega, by omega⟩ dX10_with_130 ?_
                      have g_1119 := m0 (fL k)
                      refine pw_iald C c_1002 ⟨by omega, by omega, by omega⟩ dX10_with_131 ?_
                      refine pw_iast C t1 ⟨by omega, by omega, by omega⟩ dX10_with_132 (fun w_1122 k_1120 o_1121 => ?_)
                      refine pw_aload_n (i := 0) C dX10_with_133 rfl rfl (Or.inr ⟨_, rfl⟩) ?_
                      have c_1123 := (o_1121 1000 (by omega)).trans y0
                      refine pw_get (j := 53) C cl_X10 fl_X10_113 (by decide) rfl c_1123 rfl dX10_with_134 ?_
                      refine pw_stk (st' := [.ref (B 53)]) rfl ?_
                      refine pw_aload_n (i := 0) C dX10_with_137 rfl rfl (Or.inr ⟨_, rfl⟩) ?_
                      refine pw_get (j := 54) C cl_X10 fl_X10_439 (by decide) rfl c_1123 rfl dX10_with_138 ?_
                      refine pw_stk (st' := [.int (iZ ((be.length : Nat) : Int)), .ref (B 53)]) rfl ?_
                      refine pw_aload_n (i := 0) C dX10_with_141 rfl rfl (Or.inr ⟨_, rfl⟩) ?_
                      refine pw_aload_n (i := 0) C dX10_with_142 rfl rfl (Or.inr ⟨_, rfl⟩) ?_
                      refine pw_get (j := 0) C cl_X10 fl_X10_8 (by decide) rfl c_1123 rfl dX10_with_143 ?_
                      refine pw_stk (st' := [.ref (B 0), .ref b, .int (iZ ((be.length : Nat) : Int)), .ref (B 53)]) rfl ?_
                      refine pw_iload_n (i := 2) C dX10_with_146 rfl rfl ?_
                      have c_1124 := (o_1121 1001 (by omega)).trans c_1002
                      have g_1125 := m0 k
                      refine pw_iald C c_1124 ⟨by omega, by omega, by omega⟩ dX10_with_147 ?_
                      refine pw_iconst C dX10_with_148 ?_
                      have R_1126 := R_1004.same (w' := w_1122) (fun k hk => (o_1121 k (by omega)))
                      refine pw_callV (As := [.int (iZ (fL k)), .int (iZ 1)]) (st := [.int (iZ ((be.length : Nat) : Int)), .ref (B 53)]) C (m_X10_nth g l c_1123 R_1126 h7 h10 hK hcc.1 (i := 1) (by omega) (fun q hq => ln_p (k := 2) (by omega) q (by omega))) my_X10_nth ml_X10_292 (pw_rec.of C c_1123 cl_X10.1) rfl ⟨Nat.le_of_ble_eq_true rfl, Nat.le_of_ble_eq_true rfl⟩ ⟨by (try dsimp only); omega, by (try dsimp only); omega⟩ rfl (Nat.le_of_ble_eq_true rfl) dX10_with_149 ?_
                      rintro _ _ ⟨rfl, z_1127, rfl, z_1127q⟩
                      have z_1127v : Vl t n z_1127 (obCar (obCdr (obCar Q))) := z_1127q
                      have z_1127r := Vl.rg R_1126 z_1127v
                      refine pw_stk (st' := [.int (iZ z_1127), .int (iZ ((be.length : Nat) : Int)), .ref (B 53)]) rfl ?_
                      have c_1128 := (o_1121 1054 (by omega)).trans t2
                      refine pw_iast C c_1128 ⟨by omega, by omega, by omega⟩ dX10_with_152 (fun w_1131 k_1129 o_1130 => ?_)
                      refine pw_aload_n (i := 0) C dX10_with_153 rfl rfl (Or.inr ⟨_, rfl⟩) ?_
                      refine pw_dup C dX10_with_154 rfl ?_
                      have c_1132 := (o_1130 1000 (by omega)).trans c_1123
                      refine pw_get (j := 54) C cl_X10 fl_X10_439 (by decide) rfl c_1132 rfl dX10_with_155 ?_
                      refine pw_stk (st' := [.int (iZ ((be.length : Nat) : Int)), .ref b]) rfl ?_
                      refine pw_iconst C dX10_with_158 ?_
                      refine pw_iadd C dX10_with_159 ?_
                      refine pw_put (j := 54) C cl_X10 fl_X10_439 (by decide) rfl rfl rfl rfl rfl c_1132 (Nat.le_of_ble_eq_true rfl) dX10_with_160 (fun w_1135 k_1133 o_1134 => ?_)
                      have k_1136 : w_1135 1000 = (b, some (mdE B (va_up (va_up x 54 ((be.length : Nat) : Int)) 54 (((be.length : Nat) : Int) + 1)))) := k_1133
                      refine pw_aload_n (i := 0) C dX10_with_163 rfl rfl (Or.inr ⟨_, rfl⟩) ?_
                      refine pw_get (j := 1) C cl_X10 fl_X10_14 (by decide) rfl k_1136 rfl dX10_with_164 ?_
                      refine pw_stk (st' := [.ref (B 1)]) rfl ?_
                      refine pw_iload_n (i := 2) C dX10_with_167 rfl rfl ?_
                      have c_1137 := ((o_1134 1002 (by omega)).trans ((o_1130 1002 (by omega)).trans ((o_1121 1002 (by omega)).trans (hf1 1002 (by omega))))).trans l1
                      have g_1138 := m1 k
                      refine pw_iald C c_1137 ⟨by omega, by omega, by omega⟩ dX10_with_168 ?_
                      refine pw_istore_n (i := 2) (lv' := [(0, .ref b), (1, .int (iZ o)), (2, .int (iZ (fR k))), (3, .int (iZ ((j : Nat) : Int)))]) C dX10_with_169 rfl (by decide) rfl ?_
                      refine pw_goto (tgt := 37) C dX10_with_170 (by decide) ?_
                      have c_1139 := ((o_1134 1053 (by omega)).trans (o_1130 1053 (by omega))).trans k_1120
                      have c_1140 := (o_1134 1054 (by omega)).trans k_1129
                      refine pw_sub [0, 1, 2] rfl ?_
                      have hB2 : BdM g w_1135 B t n (be ++ [((obCar (obCar Q)), obCar (obCdr (obCar Q)))]) := ⟨_, _, c_1139, c_1140, upz_inI t3 (by omega), upz_inI t4 (by omega), by have := VlsI.add0 hcv.1 hT1; rw [List.length_map] at this; rw [List.map_append]; exact this, by have := VlsI.add0 z_1127v hT2; rw [List.length_map] at this; rw [List.map_append]; exact this, by rw [List.length_append]; show be.length + 1 ≤ 1000; omega⟩
                      have hlc := obLen_cdr hp hl0
                      refine ih w_1135 (fR k) (obCdr Q) (.add (obCar (obCar Q)) acc) (be ++ [((obCar (obCar Q)), obCar (obCdr (obCar Q)))]) (by omega) hcc.2 hlc.2 (by rw [List.length_append]; show be.length + 1 + kk ≤ 1000; omega) (by rw [k_1136, List.length_append]; rfl) hB2 (fun q => ?_) ?_ ?_ (fun q hq => (o_1134 q (by omega)).trans ((o_1130 q (by omega)).trans ((o_1121 q (by omega)).trans (hf1 q (by omega)))))
                      · rw [List.map_append, List.mem_append]; show (if (obCar (obCar Q)) = q then true else obEl q acc) = true ↔ q ∈ be.map Prod.fst ∨ q ∈ [(obCar (obCar Q))]
                        by_cases c : (obCar (obCar Q)) = q
                        · rw [if_pos c, c]; simp
                        · rw [if_neg c, hacc, List.mem_singleton]; exact ⟨Or.inl, fun h => h.elim id (fun h => absurd h.symm c)⟩
                      · rw [← hbv, bvF_p hp, if_pos ⟨by omega, hvk, hnin⟩]
                      · rw [← hbe2, bEnv_pp hp, List.append_assoc]; rfl
                    · exfalso; omega
                  | succ jj ihj =>
                    intro j hj hne
                    obtain ⟨q, hq⟩ : ∃ q, be[j]? = some q := ⟨_, List.getElem?_eq_getElem (by omega)⟩
                    have hqv := VlsI.mapf hT1 hq
                    rw [Int.zero_add] at hqv
                    have hqr := Vl.rg hR hqv
                    refine pw_iload_n (i := 3) C dX10_with_77 rfl rfl ?_
                    refine pw_aload_n (i := 0) C dX10_with_78 rfl rfl (Or.inr ⟨_, rfl⟩) ?_
                    refine pw_get (j := 54) C cl_X10 fl_X10_439 (by decide) rfl y0 rfl dX10_with_79 ?_
                    refine pw_stk (st' := [.int (iZ ((be.length : Nat) : Int)), .int (iZ ((j : Nat) : Int))]) rfl ?_
                    refine pw_icmp_ge (tgt := 113) C (by omega) (by omega) dX10_with_82 (by decide) (fun h_1241 => ?_) (fun h_1241 => ?_)
                    · exfalso; omega
                    · refine pw_aload_n (i := 0) C dX10_with_85 rfl rfl (Or.inr ⟨_, rfl⟩) ?_
                      refine pw_get (j := 52) C cl_X10 fl_X10_110 (by decide) rfl y0 rfl dX10_with_86 ?_
                      refine pw_stk (st' := [.ref (B 52)]) rfl ?_
                      refine pw_iload_n (i := 3) C dX10_with_89 rfl rfl ?_
                      have g_1242 := t3 ((j : Nat) : Int)
                      refine pw_iald C t1 ⟨by omega, by omega, by omega⟩ dX10_with_90 ?_
                      refine pw_aload_n (i := 0) C dX10_with_91 rfl rfl (Or.inr ⟨_, rfl⟩) ?_
                      refine pw_get (j := 0) C cl_X10 fl_X10_8 (by decide) rfl y0 rfl dX10_with_92 ?_
                      refine pw_stk (st' := [.ref (B 0), .int (iZ (f1 ((j : Nat) : Int)))]) rfl ?_
                      refine pw_aload_n (i := 0) C dX10_with_95 rfl rfl (Or.inr ⟨_, rfl⟩) ?_
                      refine pw_get (j := 0) C cl_X10 fl_X10_8 (by decide) rfl y0 rfl dX10_with_96 ?_
                      refine pw_stk (st' := [.ref (B 0), .ref (B 0), .int (iZ (f1 ((j : Nat) : Int)))]) rfl ?_
                      refine pw_iload_n (i := 2) C dX10_with_99 rfl rfl ?_
                      have g_1243 := m0 k
                      refine pw_iald C c_1002 ⟨by omega, by omega, by omega⟩ dX10_with_100 ?_
                      have g_1244 := m0 (fL k)
                      refine pw_iald C c_1002 ⟨by omega, by omega, by omega⟩ dX10_with_101 ?_
                      refine pw_icmp_ne (tgt := 107) C (by omega) (by omega) dX10_with_102 (by decide) (fun h_1245 => ?_) (fun h_1245 => ?_)
                      · refine pw_iinc (lv' := [(0, .ref b), (1, .int (iZ o)), (2, .int (iZ k)), (3, .int (iZ (((j : Nat) : Int) + 1)))]) C dX10_with_107 rfl (by decide) rfl ?_
                        refine pw_goto (tgt := 77) C dX10_with_110 (by decide) ?_
                        rw [show ((j : Nat) : Int) + 1 = ((j + 1 : Nat) : Int) by omega]
                        refine ihj (j + 1) (by omega) (fun i e hi he => ?_)
                        by_cases c : i = j
                        · rw [c, hq] at he; rw [← Option.some.inj he]; exact fun e2 => absurd ((RS.inj hR hqv hcv.1).mpr e2) (by omega)
                        · exact hne i e (by omega) he
                      · have hin : (obCar (obCar Q)) ∈ be.map Prod.fst := by rw [← (RS.inj hR hqv hcv.1).mp (by omega)]; exact List.mem_map.mpr ⟨q, List.mem_of_getElem? hq, rfl⟩
                        refine pw_iconst C dX10_with_105 ?_
                        have D_1246 := hD.same (w' := w1) (fun k hk => (hf1 k (by omega))) Ext.rf
                        have G_1247 := hBt.same (w' := w1) (fun k hk => (hf1 k (by omega)))
                        have G_1248 := hWk.same (w' := w1) (fun k hk => (hf1 k (by omega)))
                        have G_1249 := hIt.same (w' := w1) (fun k hk => (hf1 k (by omega)))
                        have G_1250 := hEv.same (w' := w1) (fun k hk => (hf1 k (by omega)))
                        have G_1251 := hTl.same (w' := w1) (fun k hk => (hf1 k (by omega)))
                        have G_1252 := hMp.same (w' := w1) (fun k hk => (hf1 k (by omega)))
                        exact pw_iret C hr dX10_with_106 (rCc.of (R0 := (2, none, 0, 0, nk)) (wtC_no hX3 (by unfold bVs; rw [if_neg (by omega), ← hbv, bvF_p hp, if_neg (fun e => by rw [(hacc _).mpr hin] at e; cases e.2.2)])) ⟨(va_up x 54 ((be.length : Nat) : Int)), t, n, sN, fZ, rfl, ⟨y0, R_1004, hK, D_1246, ⟨G_1247, G_1248, G_1249, G_1250, hTp1, G_1251, G_1252⟩, (hO.same ((hf1 1015 (by omega)))), h7, h10, h32, h37, h39, h40, h41, h45, h47, h69, h38⟩, Ext.rf, by omega, by omega, ⟨rfl, rfl, rfl⟩, fun k hk => (hf1 k (by omega))⟩)
                exact inner be.length 0 (by omega) (fun i q hi _ => absurd hi (by omega))
              · refine pw_iconst C dX10_with_73 ?_
                have D_1253 := hD.same (w' := w1) (fun k hk => (hf1 k (by omega))) Ext.rf
                have G_1254 := hBt.same (w' := w1) (fun k hk => (hf1 k (by omega)))
                have G_1255 := hWk.same (w' := w1) (fun k hk => (hf1 k (by omega)))
                have G_1256 := hIt.same (w' := w1) (fun k hk => (hf1 k (by omega)))
                have G_1257 := hEv.same (w' := w1) (fun k hk => (hf1 k (by omega)))
                have G_1258 := hTl.same (w' := w1) (fun k hk => (hf1 k (by omega)))
                have G_1259 := hMp.same (w' := w1) (fun k hk => (hf1 k (by omega)))
                exact pw_iret C hr dX10_with_74 (rCc.of (R0 := (2, none, 0, 0, nk)) (wtC_no hX3 (by unfold bVs; rw [if_neg (by omega), ← hbv, bvF_p hp, if_neg (fun e => by rw [h_1016] at e; cases e.2.1)])) ⟨(va_up x 54 ((be.length : Nat) : Int)), t, n, sN, fZ, rfl, ⟨y0, R_1004, hK, D_1253, ⟨G_1254, G_1255, G_1256, G_1257, hTp1, G_1258, G_1259⟩, (hO.same ((hf1 1015 (by omega)))), h7, h10, h32, h37, h39, h40, h41, h45, h47, h69, h38⟩, Ext.rf, by omega, by omega, ⟨rfl, rfl, rfl⟩, fun k hk => (hf1 k (by omega))⟩)
      exact loop (obLen (obCar (obCdr X))).toNat w_18 z_21 (obCar (obCdr X)) oNil [] rfl z_21v (by have := obLen_ge (obCar (obCdr X)); omega) (by have := lsO_len (R0 := (obCar (obCdr X))) (by have := obLen_ge (obCar (obCdr X)); omega); show 0 + _ ≤ 1000; omega) k_19 ((hTp.same (fun k hk => (o_17 k (by omega)))).bd t n) (fun q => ⟨(fun h => by cases h), (fun h => absurd h List.not_mem_nil)⟩) rfl rfl (fun q hq => (o_17 q (by omega)))
    · refine pw_iconst C dX10_with_23 ?_
      exact pw_iret C hr dX10_with_24 (rCc.of (R0 := (2, none, 0, 0, nk)) (wtC_no (by omega) (by unfold bVs; rw [if_pos (by omega)])) ⟨x, t, n, sN, fZ, rfl, ⟨h0, hR, hK, hD, ⟨hBt, hWk, hIt, hEv, hTp, hTl, hMp⟩, hO, h7, h10, h32, h37, h39, h40, h41, h45, h47, h69, h38⟩, Ext.rf, by omega, by omega, ⟨rfl, rfl, rfl⟩, fun k hk => rfl⟩)

