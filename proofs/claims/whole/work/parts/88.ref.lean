theorem obEl_mem {a : Ob} : ∀ {X : Ob}, obEl a X = true ↔ a ∈ lsO X := by
  intro X
  induction X with
  | add c d hc hd =>
    simp only [obEl, lsO, List.mem_cons]
    by_cases e : c = a
    · rw [if_pos e]; simp [e]
    · rw [if_neg e, hd]
      constructor
      · exact Or.inr
      · rintro (q | q)
        · exact absurd q.symm e
        · exact q
  | _ => simp [obEl, lsO]
theorem psOk_iff : ∀ {X : Ob}, psOk X = true ↔ (∀ Y ∈ lsO X, obV Y = true) ∧ (lsO X).Pairwise (fun a c => a ≠ c) := by
  intro X
  induction X with
  | add c d hc hd =>
    simp only [psOk, lsO, Bool.and_eq_true, Bool.not_eq_true', List.pairwise_cons, List.mem_cons, hd]
    constructor
    · rintro ⟨⟨h1, h2⟩, h3, h4⟩
      refine ⟨fun Y hY => ?_, fun Y hY e => ?_, h4⟩
      · rcases hY with e | e
        · rw [e]; exact h1
        · exact h3 Y e
      · rw [e] at h2; rw [obEl_mem.mpr hY] at h2; cases h2
    · rintro ⟨h1, h2, h3⟩
      refine ⟨⟨h1 c (Or.inl rfl), ?_⟩, fun Y hY => h1 Y (Or.inr hY), h3⟩
      cases hb : obEl c d with
      | false => rfl
      | true => exact absurd rfl (h2 c (obEl_mem.mp hb))
  | _ => simp [psOk, lsO]
theorem psOk_no1 {X : Ob} {k : Nat} {Y : Ob} (hk : (lsO X)[k]? = some Y) (hv : obV Y = false) : psOk X = false := by
  cases hb : psOk X with
  | false => rfl
  | true => rw [(psOk_iff.mp hb).1 Y (List.mem_of_getElem? hk)] at hv; cases hv
theorem psOk_no2 {X : Ob} {k j : Nat} {Y : Ob} (hj : (lsO X)[j]? = some Y) (hk : (lsO X)[k]? = some Y) (hjk : j < k) : psOk X = false := by
  cases hb : psOk X with
  | false => rfl
  | true =>
    obtain ⟨a1, a2⟩ := List.getElem?_eq_some_iff.mp hj
    obtain ⟨b1, b2⟩ := List.getElem?_eq_some_iff.mp hk
    exact absurd (a2.trans b2.symm) (List.pairwise_iff_getElem.mp (psOk_iff.mp hb).2 j k a1 b1 hjk)
theorem psOk_yes {X : Ob} (h : ∀ (k : Nat) (Y : Ob), (lsO X)[k]? = some Y → obV Y = true ∧ ∀ (j : Nat) (Z : Ob), j < k → (lsO X)[j]? = some Z → Z ≠ Y) : psOk X = true := by
  refine psOk_iff.mpr ⟨fun Y hY => ?_, List.pairwise_iff_getElem.mpr (fun i j hi hj hij => ?_)⟩
  · obtain ⟨k, hk⟩ := List.mem_iff_getElem?.mp hY
    exact (h k Y hk).1
  · exact (h j _ (List.getElem?_eq_getElem hj)).2 i _ hij (List.getElem?_eq_getElem hi)
theorem RK.tr {t : Int → Ob} {n : Int} (h : RK t n) (q : Bool) : Vl t n (b2i q) (trO q) := by
  cases q
  · exact h.nil
  · exact h.v 1 (by decide)
theorem RS.am {g : pw_P} {w : pw_W} {B : Nat → Nat} {t : Int → Ob} {n o : Int} {s : Nat} {fZ : Int → Int} {X : Ob} (h : RS g w B t n s fZ) (ho : Vl t n o X) : 0 ≤ obAm X ∧ obAm X < 4611686018427387904 := by
  obtain ⟨fL, fR, fH, fV, l0, l1, l4, l5, ⟨m0, m1, m4, m5⟩, hln⟩ := RS.lens h
  have := (hln o X ho).2.2.2.2.2.1
  cases hN : obN X with
  | true => have := this hN; omega
  | false => cases X <;> first | (cases hN; done) | (simp only [obAm]; omega)
theorem RS.htb {g : pw_P} {w : pw_W} {B : Nat → Nat} {t : Int → Ob} {n o : Int} {s : Nat} {fZ : Int → Int} {X : Ob} (h : RS g w B t n s fZ) (ho : Vl t n o X) : 0 ≤ obHt X ∧ obHt X < 40000 := by
  have hn := h.n
  obtain ⟨fL, fR, fN, fH, fV, fD, fM, fE, a0, a1, a2, a3, a4, a5, a6, a8, a9, -, -, -, -, hC⟩ := h
  have := (hC.ht _ o rfl ho.1 ho.2.1).1
  rw [ho.2.2] at this
  have := ho.2.1
  exact ⟨obHt_ge X, by omega⟩
set_option maxRecDepth 100000 in
set_option maxHeartbeats 4000000 in
/-- areVariables -/
theorem m_X10_areVariables (g : pw_P) (l : Launch) {w : pw_W} {b : Nat} {B : Nat → Nat} {x : Nat → Int} (h0 : w 1000 = (b, some (mdE B x))) {t : Int → Ob} {n : Int} {sN : Nat} {fZ : Int → Int} (hR : RS g w B t n sN fZ) (h7 : x 7 = n) (h10 : x 10 = ((sN : Nat) : Int)) (hK : RK t n) {o : Int} {X : Ob} (ho : Vl t n o X) : pw_M g l yX10_areVariables cX10_areVariables 6 (some .boolean) { frames := 2, cells := 0, slots := 0, locals := 44 } [.ref b, .int (iZ o), .int (iZ 6)] w (fun r w' => w = w' ∧ r = some (.int (iZ (b2i (arePs X))))) := by
  refine pw_M.of (by decide) (Nat.le_of_ble_eq_true rfl) rfl ?_
  intro p e s m args below meth c C hr hn
  have hRn := hR.n
  have hor := Vl.rg hR ho
  have hlg := obLen_rg hR ho
  refine pw_aload_n (i := 0) C dX10_areVariables_0 rfl rfl (Or.inr ⟨_, rfl⟩) ?_
  refine pw_iload_n (i := 1) C dX10_areVariables_1 rfl rfl ?_
  refine pw_callV (As := [.int (iZ o)]) (st := []) C (m_X10_lengthOf g l h0 hR h7 h10 hK ho) my_X10_lengthOf ml_X10_325 (pw_rec.of C h0 cl_X10.1) rfl ⟨Nat.le_of_ble_eq_true rfl, Nat.le_of_ble_eq_true rfl⟩ ⟨by (try dsimp only); omega, by (try dsimp only); omega⟩ rfl (Nat.le_of_ble_eq_true rfl) dX10_areVariables_2 ?_
  rintro _ _ ⟨rfl, rfl⟩
  refine pw_stk (st' := [.int (iZ (obLen X))]) rfl ?_
  have g_201 := obLen_rg hR ho
  refine pw_istore_n (i := 3) (lv' := [(0, .ref b), (1, .int (iZ o)), (2, .int (iZ 6)), (3, .int (iZ (obLen X)))]) C dX10_areVariables_5 rfl (by decide) rfl ?_
  refine pw_iload_n (i := 3) C dX10_areVariables_6 rfl rfl ?_
  refine pw_iconst C dX10_areVariables_7 ?_
  refine pw_icmp_eq (tgt := 16) C (by omega) (by omega) dX10_areVariables_8 (by decide) (fun h_202 => ?_) (fun h_202 => ?_)
  · refine pw_iconst C dX10_areVariables_16 ?_
    exact pw_zret C hr (by decide +kernel) dX10_areVariables_17 ⟨rfl, by rw [show arePs X = false from by unfold arePs; rw [decide_eq_false (by omega)]; rfl]; rfl⟩
  · refine pw_iload_n (i := 3) C dX10_areVariables_11 rfl rfl ?_
    refine pw_iload_n (i := 2) C dX10_areVariables_12 rfl rfl ?_
    refine pw_icmp_le (tgt := 18) C (by omega) (by omega) dX10_areVariables_13 (by decide) (fun h_203 => ?_) (fun h_203 => ?_)
    · refine pw_iconst C dX10_areVariables_18 ?_
      refine pw_istore (lv' := [(0, .ref b), (1, .int (iZ o)), (2, .int (iZ 6)), (3, .int (iZ (obLen X))), (4, .int (iZ 0))]) C dX10_areVariables_19 (by decide) rfl ?_
      have hlL := lsO_len (R0 := X) (by omega)
      have loop : ∀ (kk k : Nat), (k : Int) + kk = obLen X → (∀ (q : Nat) (Y : Ob), q < k → (lsO X)[q]? = some Y → obV Y = true ∧ ∀ (j : Nat) (Z : Ob), j < q → (lsO X)[j]? = some Z → Z ≠ Y) → pw_G g p l e { frames := 2, cells := 0, slots := 0, locals := 44 } s m args below meth c 6 (pw_Q g below (fun r w' => w = w' ∧ r = some (.int (iZ (b2i (arePs X))))) args s { frames := 2, cells := 0, slots := 0, locals := 44 }) 0 0 21 [(0, .ref b), (1, .int (iZ o)), (2, .int (iZ 6)), (3, .int (iZ (obLen X))), (4, .int (iZ ((k : Nat) : Int)))] [] w := by
        intro kk
        induction kk with
        | zero =>
          intro k hk hq
          refine pw_iload C dX10_areVariables_21 rfl ?_
          refine pw_iload_n (i := 3) C dX10_areVariables_23 rfl rfl ?_
          refine pw_icmp_ge (tgt := 84) C (by omega) (by omega) dX10_areVariables_24 (by decide) (fun h_11 => ?_) (fun h_11 => ?_)
          · refine pw_iconst C dX10_areVariables_84 ?_
            exact pw_zret C hr (by decide +kernel) dX10_areVariables_85 ⟨rfl, by rw [show arePs X = true from by unfold arePs; rw [decide_eq_true (by omega), psOk_yes (fun q Y hY => hq q Y (by have := (List.getElem?_eq_some_iff.mp hY).1; omega) hY)]; rfl]; rfl⟩
          · exfalso; omega
        | succ kk ih =>
          intro k hk hq
          refine pw_iload C dX10_areVariables_21 rfl ?_
          refine pw_iload_n (i := 3) C dX10_areVariables_23 rfl rfl ?_
          refine pw_icmp_ge (tgt := 84) C (by omega) (by omega) dX10_areVariables_24 (by decide) (fun h_51 => ?_) (fun h_51 => ?_)
          · exfalso; omega
          · refine pw_aload_n (i := 0) C dX10_areVariables_27 rfl rfl (Or.inr ⟨_, rfl⟩) ?_
            refine pw_aload_n (i := 0) C dX10_areVariables_28 rfl rfl (Or.inr ⟨_, rfl⟩) ?_
            refine pw_iload_n (i := 1) C dX10_areVariables_29 rfl rfl ?_
            refine pw_iload C dX10_areVariables_30 rfl ?_
            refine pw_callV (As := [.int (iZ o), .int (iZ ((k : Nat) : Int))]) (st := [.ref b]) C (m_X10_nth g l h0 hR h7 h10 hK ho (i := k) (by omega) (fun q hq => (lsO_cdN q X (by omega)).1)) my_X10_nth ml_X10_292 (pw_rec.of C h0 cl_X10.1) rfl ⟨Nat.le_of_ble_eq_true rfl, Nat.le_of_ble_eq_true rfl⟩ ⟨by (try dsimp only); omega, by (try dsimp only); omega⟩ rfl (Nat.le_of_ble_eq_true rfl) dX10_areVariables_32 ?_
            rintro _ _ ⟨rfl, z_52, rfl, z_52v⟩
            have z_52r := Vl.rg hR z_52v
            refine pw_stk (st' := [.int (iZ z_52), .ref b]) rfl ?_
            refine pw_callV (As := [.int (iZ z_52)]) (st := []) C (m_X10_isVariable g l h0 hR h7 h10 hK z_52v) my_X10_isVariable ml_X10_356 (pw_rec.of C h0 cl_X10.1) rfl ⟨Nat.le_of_ble_eq_true rfl, Nat.le_of_ble_eq_true rfl⟩ ⟨by (try dsimp only); omega, by (try dsimp only); omega⟩ rfl (Nat.le_of_ble_eq_true rfl) dX10_areVariables_35 ?_
            rintro _ _ ⟨rfl, rfl⟩
            refine pw_stk (st' := [.int (iZ (b2i (obV (obCar (cdN k X)))))]) rfl ?_
            refine pw_if_neB (tgt := 43) C dX10_areVariables_38 (by decide) (fun h_53 => ?_) (fun h_53 => ?_)
            · refine pw_iconst C dX10_areVariables_43 ?_
              refine pw_istore (lv' := [(0, .ref b), (1, .int (iZ o)), (2, .int (iZ 6)), (3, .int (iZ (obLen X))), (4, .int (iZ ((k : Nat) : Int))), (5, .int (iZ 0))]) C dX10_areVariables_44 (by decide) rfl ?_
              have hvk := h_53
              have inner : ∀ (jj j : Nat), j + jj = k → (∀ (q : Nat) (Z : Ob), q < j → (lsO X)[q]? = some Z → Z ≠ obCar (cdN k X)) → pw_G g p l e { frames := 2, cells := 0, slots := 0, locals := 44 } s m args below meth c 6 (pw_Q g below (fun r w' => w = w' ∧ r = some (.int (iZ (b2i (arePs X))))) args s { frames := 2, cells := 0, slots := 0, locals := 44 }) 0 0 46 [(0, .ref b), (1, .int (iZ o)), (2, .int (iZ 6)), (3, .int (iZ (obLen X))), (4, .int (iZ ((k : Nat) : Int))), (5, .int (iZ ((j : Nat) : Int)))] [] w := by
                intro jj
                induction jj with
                | zero =>
                  intro j hj hqi
                  refine pw_iload C dX10_areVariables_46 rfl ?_
                  refine pw_iload C dX10_areVariables_48 rfl ?_
                  refine pw_icmp_ge (tgt := 78) C (by omega) (by omega) dX10_areVariables_50 (by decide) (fun h_501 => ?_) (fun h_501 => ?_)
                  · refine pw_iinc (lv' := [(0, .ref b), (1, .int (iZ o)), (2, .int (iZ 6)), (3, .int (iZ (obLen X))), (4, .int (iZ (((k : Nat) : Int) + 1))), (5, .int (iZ ((j : Nat) : Int)))]) C dX10_areVariables_78 rfl (by decide) rfl ?_
                    refine pw_goto (tgt := 21) C dX10_areVariables_81 (by decide) ?_
                    refine pw_sub [0, 1, 2, 3, 4] rfl ?_
                    rw [show ((k : Nat) : Int) + 1 = ((k + 1 : Nat) : Int) by omega]
                    refine ih (k + 1) (by omega) (fun q Y hq1 hY => ?_)
                    by_cases e : q = k
                    · subst e; rw [(lsO_cdN q X (by omega)).2] at hY; rw [← Option.some.inj hY]; exact ⟨hvk, fun j' Z hj' hZ => hqi j' Z (by omega) hZ⟩
                    · exact hq q Y (by omega) hY
                  · exfalso; omega
                | succ jj ihj =>
                  intro j hj hqi
                  refine pw_iload C dX10_areVariables_46 rfl ?_
                  refine pw_iload C dX10_areVariables_48 rfl ?_
                  refine pw_icmp_ge (tgt := 78) C (by omega) (by omega) dX10_areVariables_50 (by decide) (fun h_601 => ?_) (fun h_601 => ?_)
                  · exfalso; omega
                  · refine pw_aload_n (i := 0) C dX10_areVariables_53 rfl rfl (Or.inr ⟨_, rfl⟩) ?_
                    refine pw_iload_n (i := 1) C dX10_areVariables_54 rfl rfl ?_
                    refine pw_iload C dX10_areVariables_55 rfl ?_
                    refine pw_callV (As := [.int (iZ o), .int (iZ ((j : Nat) : Int))]) (st := []) C (m_X10_nth g l h0 hR h7 h10 hK ho (i := j) (by omega) (fun q hq => (lsO_cdN q X (by omega)).1)) my_X10_nth ml_X10_292 (pw_rec.of C h0 cl_X10.1) rfl ⟨Nat.le_of_ble_eq_true rfl, Nat.le_of_ble_eq_true rfl⟩ ⟨by (try dsimp only); omega, by (try dsimp only); omega⟩ rfl (Nat.le_of_ble_eq_true rfl) dX10_areVariables_57 ?_
                    rintro _ _ ⟨rfl, z_602, rfl, z_602v⟩
                    have z_602r := Vl.rg hR z_602v
                    refine pw_stk (st' := [.int (iZ z_602)]) rfl ?_
                    refine pw_aload_n (i := 0) C dX10_areVariables_60 rfl rfl (Or.inr ⟨_, rfl⟩) ?_
                    refine pw_iload_n (i := 1) C dX10_areVariables_61 rfl rfl ?_
                    refine pw_iload C dX10_areVariables_62 rfl ?_
                    refine pw_callV (As := [.int (iZ o), .int (iZ ((k : Nat) : Int))]) (st := [.int (iZ z_602)]) C (m_X10_nth g l h0 hR h7 h10 hK ho (i := k) (by omega) (fun q hq => (lsO_cdN q X (by omega)).1)) my_X10_nth ml_X10_292 (pw_rec.of C h0 cl_X10.1) rfl ⟨Nat.le_of_ble_eq_true rfl, Nat.le_of_ble_eq_true rfl⟩ ⟨by (try dsimp only); omega, by (try dsimp only); omega⟩ rfl (Nat.le_of_ble_eq_true rfl) dX10_areVariables_64 ?_
                    rintro _ _ ⟨rfl, z_603, rfl, z_603v⟩
                    have z_603r := Vl.rg hR z_603v
                    refine pw_stk (st' := [.int (iZ z_603), .int (iZ z_602)]) rfl ?_
                    refine pw_icmp_ne (tgt := 72) C (by omega) (by omega) dX10_areVariables_67 (by decide) (fun h_604 => ?_) (fun h_604 => ?_)
                    · refine pw_iinc (lv' := [(0, .ref b), (1, .int (iZ o)), (2, .int (iZ 6)), (3, .int (iZ (obLen X))), (4, .int (iZ ((k : Nat) : Int))), (5, .int (iZ (((j : Nat) : Int) + 1)))]) C dX10_areVariables_72 rfl (by decide) rfl ?_
                      refine pw_goto (tgt := 46) C dX10_areVariables_75 (by decide) ?_
                      rw [show ((j : Nat) : Int) + 1 = ((j + 1 : Nat) : Int) by omega]
                      refine ihj (j + 1) (by omega) (fun q Z hq1 hZ => ?_)
                      by_cases e : q = j
                      · rw [e, (lsO_cdN j X (by omega)).2] at hZ; rw [← Option.some.inj hZ]; exact fun e2 => absurd ((RS.inj hR z_602v z_603v).mpr e2) (by omega)
                      · exact hqi q Z (by omega) hZ
                    · refine pw_iconst C dX10_areVariables_70 ?_
                      exact pw_zret C hr (by decide +kernel) dX10_areVariables_71 ⟨rfl, by rw [show arePs X = false from by unfold arePs; rw [psOk_no2 (j := j) (k := k) (lsO_cdN j X (by omega)).2 (by rw [(lsO_cdN k X (by omega)).2, (RS.inj hR z_602v z_603v).mp (by omega)]) (by omega), Bool.and_false]]; rfl⟩
              exact inner k 0 (by omega) (fun q Z hq _ => absurd hq (by omega))
            · refine pw_iconst C dX10_areVariables_41 ?_
              exact pw_zret C hr (by decide +kernel) dX10_areVariables_42 ⟨rfl, by rw [show arePs X = false from by unfold arePs; rw [psOk_no1 (lsO_cdN k X (by omega)).2 h_53, Bool.and_false]]; rfl⟩
      exact loop (obLen X).toNat 0 (by omega) (fun q Y hq _ => absurd hq (by omega))
    · refine pw_iconst C dX10_areVariables_16 ?_
      exact pw_zret C hr (by decide +kernel) dX10_areVariables_17 ⟨rfl, by rw [show arePs X = false from by unfold arePs; rw [decide_eq_false (by omega)]; rfl]; rfl⟩

set_option maxRecDepth 100000 in
set_option maxHeartbeats 4000000 in
/-- numberOf -/
theorem m_X10_numberOf (g : pw_P) (l : Launch) {w : pw_W} {b : Nat} {B : Nat → Nat} {x : Nat → Int} (h0 : w 1000 = (b, some (mdE B x))) {t : Int → Ob} {n : Int} {sN : Nat} {fZ : Int → Int} (hR : RS g w B t n sN fZ) (h7 : x 7 = n) (h10 : x 10 = ((sN : Nat) : Int)) (hK : RK t n) {o : Int} {X : Ob} (ho : Vl t n o X) : pw_M g l yX10_numberOf cX10_numberOf 2 (some .long) { frames := 1, cells := 0, slots := 0, locals := 21 } [.ref b, .int (iZ o)] w (fun r w' => w = w' ∧ r = some (.long (lZ (obAm X)))) := by
  refine pw_M.of (by decide) (Nat.le_of_ble_eq_true rfl) rfl ?_
  intro p e s m args below meth c C hr hn
  obtain ⟨fL, fR, fH, fV, l0, l1, l4, l5, ⟨m0, m1, m4, m5⟩, hln⟩ := RS.lens hR
  have hRn := hR.n
  have hor := Vl.rg hR ho
  refine pw_aload_n (i := 0) C dX10_numberOf_0 rfl rfl (Or.inr ⟨_, rfl⟩) ?_
  refine pw_iload_n (i := 1) C dX10_numberOf_1 rfl rfl ?_
  refine pw_callV (As := [.int (iZ o)]) (st := []) C (m_X10_isNatural g l h0 hR h7 h10 ho) my_X10_isNatural ml_X10_289 (pw_rec.of C h0 cl_X10.1) rfl ⟨Nat.le_of_ble_eq_true rfl, Nat.le_of_ble_eq_true rfl⟩ ⟨by (try dsimp only); omega, by (try dsimp only); omega⟩ rfl (Nat.le_of_ble_eq_true rfl) dX10_numberOf_2 ?_
  rintro _ _ ⟨rfl, rfl⟩
  refine pw_stk (st' := [.int (iZ (b2i (obN X)))]) rfl ?_
  refine pw_if_eqB (tgt := 17) C dX10_numberOf_5 (by decide) (fun h_1 => ?_) (fun h_1 => ?_)
  · refine pw_lconst (z := 0) C dX10_numberOf_17 (by decide) ?_
    exact pw_lret C hr dX10_numberOf_18 ⟨rfl, by rw [show obAm X = 0 from by cases X <;> first | rfl | (cases h_1; done)]⟩
  · refine pw_aload_n (i := 0) C dX10_numberOf_8 rfl rfl (Or.inr ⟨_, rfl⟩) ?_
    refine pw_get (j := 5) C cl_X10 fl_X10_26 (by decide) rfl h0 rfl dX10_numberOf_9 ?_
    refine pw_stk (st' := [.ref (B 5)]) rfl ?_
    refine pw_iload_n (i := 1) C dX10_numberOf_12 rfl rfl ?_
    have g_2 := m5 o
    refine pw_lald C l5 ⟨by omega, by omega, by omega⟩ dX10_numberOf_13 ?_
    refine pw_goto (tgt := 18) C dX10_numberOf_14 (by decide) ?_
    exact pw_lret C hr dX10_numberOf_18 ⟨rfl, by rw [((hln o X ho).2.2.2.2.2.1 h_1).1]⟩

set_option maxRecDepth 100000 in
set_option maxHeartbeats 4000000 in
/-- truth -/
theorem m_X10_truth (g : pw_P) (l : Launch) {w : pw_W} {q : Bool} : pw_M g l yX10_truth cX10_truth 1 (some .int) { frames := 0, cells := 0, slots := 0, locals := 0 } [.int (iZ (b2i q))] w (fun r w' => w = w' ∧ r = some (.int (iZ (b2i q)))) := by
  refine pw_M.of (by decide) (Nat.le_of_ble_eq_true rfl) rfl ?_
  intro p e s m args below meth c C hr hn
  refine pw_iload_n (i := 0) C dX10_truth_0 rfl rfl ?_
  refine pw_if_eqB (tgt := 8) C dX10_truth_1 (by decide) (fun h_1 => ?_) (fun h_1 => ?_)
  · refine pw_iconst C dX10_truth_8 ?_
    exact pw_iret C hr dX10_truth_9 ⟨rfl, by rw [h_1]; rfl⟩
  · refine pw_iconst C dX10_truth_4 ?_
    refine pw_goto (tgt := 9) C dX10_truth_5 (by decide) ?_
    exact pw_iret C hr dX10_truth_9 ⟨rfl, by rw [h_1]; rfl⟩

def rBs (g : pw_P) (w w' : pw_W) (b : Nat) (B : Nat → Nat) (x : Nat → Int) (t : Int → Ob) (n : Int) (sN : Nat) (fZ : Int → Int) (F : Option Ob) (r : Option Value) : Prop :=
  ∃ (z : Int) (t' : Int → Ob) (n' : Int) (s' : Nat) (fZ' : Int → Int), r = some (.int (iZ z)) ∧ w' 1000 = (b, some (mdE B (va_up (va_up x 7 n') 10 ((s' : Nat) : Int)))) ∧ RS g w' B t' n' s' fZ' ∧ Ext t n t' n' ∧ n' ≤ n + 1 ∧ s' ≤ sN ∧ (match F with | some v => Vl t' n' z v | none => z = -1) ∧ ∀ k, (k < 1000 ∨ 1010 < k ∨ k = 1008) → w' k = w k
theorem rBs.same {g : pw_P} {w : pw_W} {b : Nat} {B : Nat → Nat} {x : Nat → Int} {t : Int → Ob} {n : Int} {sN : Nat} {fZ : Int → Int} {F : Option Ob} {z : Int} (h0 : w 1000 = (b, some (mdE B x))) (h7 : x 7 = n) (h10 : x 10 = ((sN : Nat) : Int)) (hR : RS g w B t n sN fZ) (hz : match F with | some v => Vl t n z v | none => z = -1) : rBs g w w b B x t n sN fZ F (some (.int (iZ z))) :=
  ⟨z, t, n, sN, fZ, rfl, by rw [← h7, ← h10]; exact h0, hR, Ext.rf, by omega, Nat.le_refl _, hz, fun _ _ => rfl⟩
set_option maxRecDepth 100000 in
set_option maxHeartbeats 4000000 in
/-- basic -/
theorem m_X10_basic (g : pw_P) (l : Launch) {w : pw_W} {b : Nat} {B : Nat → Nat} {x : Nat → Int} (h0 : w 1000 = (b, some (mdE B x))) {t : Int → Ob} {n : Int} {sN : Nat} {fZ : Int → Int} (hR : RS g w B t n sN fZ) (h7 : x 7 = n) (h10 : x 10 = ((sN : Nat) : Int)) (hK : RK t n) {fz fr : Int} {A1 A2 : Ob} {fv : Int → Int} (p62 : w 1063 = (B 62, some (AI g 2400 fv))) (q62 : ∀ j, inI (fv j)) (hfz : 4 ≤ fz ∧ fz ≤ 16) (hfr : 0 ≤ fr ∧ fr < 2000) (hv1 : Vl t n (fv fr) A1) (hv2 : fz ≤ 9 → Vl t n (fv (fr + 1)) A2) (hcap : n < 40000) : pw_M g l yX10_basic cX10_basic 5 (some .int) { frames := 2, cells := 0, slots := 0, locals := 47 } [.ref b, .int (iZ fz), .int (iZ fr)] w (fun r w' => rBs g w w' b B x t n sN fZ (baseF (pm fz.toNat) A1 A2) r) := by
  refine pw_M.of (by decide) (Nat.le_of_ble_eq_true rfl) rfl ?_
  intro p e s m args below meth c C hr hn
  obtain ⟨fL, fR, fH, fV, l0, l1, l4, l5, ⟨m0, m1, m4, m5⟩, hln⟩ := RS.lens hR
  have hRn := hR.n
  have hv1r := Vl.rg hR hv1
  have hv2r := q62 (fr + 1)
  refine pw_aload_n (i := 0) C dX10_basic_0 rfl rfl (Or.inr ⟨_, rfl⟩) ?_
  refine pw_get (j := 62) C cl_X10 fl_X10_135 (by decide) rfl h0 rfl dX10_basic_1 ?_
  refine pw_stk (st' := [.ref (B 62)]) rfl ?_
  refine pw_iload_n (i := 2) C dX10_basic_4 rfl rfl ?_
  have g_1 := q62 fr
  refine pw_iald C p62 ⟨by omega, by omega, by omega⟩ dX10_basic_5 ?_
  refine pw_istore_n (i := 3) (lv' := [(0, .ref b), (1, .int (iZ fz)), (2, .int (iZ fr)), (3, .int (iZ (fv fr)))]) C dX10_basic_6 rfl (by decide) rfl ?_
  refine pw_aload_n (i := 0) C dX10_basic_7 rfl rfl (Or.inr ⟨_, rfl⟩) ?_
  refine pw_get (j := 62) C cl_X10 fl_X10_135 (by decide) rfl h0 rfl dX10_basic_8 ?_
  refine pw_stk (st' := [.ref (B 62)]) rfl ?_
  refine pw_iload_n (i := 2) C dX10_basic_11 rfl rfl ?_
  refine pw_iconst C dX10_basic_12 ?_
  refine pw_iadd C dX10_basic_13 ?_
  have g_2 := q62 (fr + 1)
  refine pw_iald C p62 ⟨by omega, by omega, by omega⟩ dX10_basic_14 ?_
  refine pw_istore (lv' := [(0, .ref b), (1, .int (iZ fz)), (2, .int (iZ fr)), (3, .int (iZ (fv fr))), (4, .int (iZ (fv (fr + 1))))]) C dX10_basic_15 (by decide) rfl ?_
  refine pw_iload_n (i := 1) C dX10_basic_17 rfl rfl ?_
  by_cases h_3 : fz = 4
  · refine pw_tsIn (tgt := 84) (off := 66) C dX10_basic_18 (by omega) (by omega) (by omega) (by rw [h_3]; rfl) (by decide) ?_
    have hfe : pm fz.toNat = pm 4 := by rw [h_3]; rfl
    have hb2 := hv2 (by omega)
    have hb2r := Vl.rg hR hb2
    refine pw_iload_n (i := 3) C dX10_basic_84 rfl rfl ?_
    refine pw_iload C dX10_basic_85 rfl ?_
    refine pw_icmp_ne (tgt := 94) C (by omega) (by omega) dX10_basic_87 (by decide) (fun h_4 => ?_) (fun h_4 => ?_)
    · refine pw_iconst C dX10_basic_94 ?_
      refine pw_callS (As := [.int (iZ 0)]) (st := []) C (m_X10_truth g l (q := false)) my_X10_truth ml_X10_386 rfl ⟨Nat.le_of_ble_eq_true rfl, Nat.le_of_ble_eq_true rfl⟩ ⟨by (try dsimp only); omega, by (try dsimp only); omega⟩ rfl (Nat.le_of_ble_eq_true rfl) dX10_basic_95 ?_
      rintro _ _ ⟨rfl, rfl⟩
      refine pw_stk (st' := [.int (iZ (b2i false))]) rfl ?_
      exact pw_iret C hr dX10_basic_98 (rBs.same h0 h7 h10 hR (by rw [hfe]; rw [show baseF (pm 4) A1 A2 = some (trO false) from by show some (trO (decide (A1 = A2))) = _; rw [show (decide (A1 = A2)) = false from decide_eq_false (fun e => absurd ((RS.inj hR hv1 hb2).mpr e) (by omega))]]; exact (RK.tr hK false)))
    · refine pw_iconst C dX10_basic_90 ?_
      refine pw_goto (tgt := 95) C dX10_basic_91 (by decide) ?_
      refine pw_callS (As := [.int (iZ 1)]) (st := []) C (m_X10_truth g l (q := true)) my_X10_truth ml_X10_386 rfl ⟨Nat.le_of_ble_eq_true rfl, Nat.le_of_ble_eq_true rfl⟩ ⟨by (try dsimp only); omega, by (try dsimp only); omega⟩ rfl (Nat.le_of_ble_eq_true rfl) dX10_basic_95 ?_
      rintro _ _ ⟨rfl, rfl⟩
      refine pw_stk (st' := [.int (iZ (b2i true))]) rfl ?_
      exact pw_iret C hr dX10_basic_98 (rBs.same h0 h7 h10 hR (by rw [hfe]; rw [show baseF (pm 4) A1 A2 = some (trO true) from by show some (trO (decide (A1 = A2))) = _; rw [show (decide (A1 = A2)) = true from decide_eq_true ((RS.inj hR hv1 hb2).mp (by omega))]]; exact (RK.tr hK true)))
  by_cases h_5 : fz = 5
  · refine pw_tsIn (tgt := 99) (off := 81) C dX10_basic_18 (by omega) (by omega) (by omega) (by rw [h_5]; rfl) (by decide) ?_
    have hfe : pm fz.toNat = pm 5 := by rw [h_5]; rfl
    have hb2 := hv2 (by omega)
    have hb2r := Vl.rg hR hb2
    refine pw_aload_n (i := 0) C dX10_basic_99 rfl rfl (Or.inr ⟨_, rfl⟩) ?_
    refine pw_iload_n (i := 3) C dX10_basic_100 rfl rfl ?_
    refine pw_iload C dX10_basic_101 rfl ?_
    refine pw_callV (As := [.int (iZ (fv fr)), .int (iZ (fv (fr + 1)))]) (st := []) C (rd_pair g l h0 hR h7 h10 hv1 hb2 (by omega)) my_X10_pair ml_X10_183 (pw_rec.of C h0 cl_X10.1) rfl ⟨Nat.le_of_ble_eq_true rfl, Nat.le_of_ble_eq_true rfl⟩ ⟨by (try dsimp only); omega, by (try dsimp only); omega⟩ rfl (Nat.le_of_ble_eq_true rfl) dX10_basic_103 ?_
    rintro _ w_18 ⟨z_6, t_7, n_8, sN_9, Z_10, rfl, e_11, R_12, x_13, hn_14, hs_15, hZ_16, z_6v, o_17⟩
    have x_131 := x_13.1
    have R_12n := R_12.n
    have v_19 := Vl.ext hv1 x_13
    have v_20 := Vl.ext hb2 x_13
    have K_21 := RK.ext hK x_13
    have z_6r := Vl.rg R_12 z_6v
    refine pw_stk (st' := [.int (iZ z_6)]) rfl ?_
    exact pw_iret C hr dX10_basic_106 ⟨z_6, t_7, n_8, sN_9, Z_10, rfl, e_11, R_12, x_13, by omega, by omega, by rw [hfe]; exact z_6v, fun k hk => (o_17 k (by omega))⟩
  by_cases h_22 : fz = 6
  · refine pw_tsIn (tgt := 107) (off := 89) C dX10_basic_18 (by omega) (by omega) (by omega) (by rw [h_22]; rfl) (by decide) ?_
    have hfe : pm fz.toNat = pm 6 := by rw [h_22]; rfl
    have hb2 := hv2 (by omega)
    have hb2r := Vl.rg hR hb2
    refine pw_iload_n (i := 3) C dX10_basic_107 rfl rfl ?_
    refine pw_if_eq (tgt := 116) C (by omega) dX10_basic_108 (by decide) (fun h_23 => ?_) (fun h_23 => ?_)
    · refine pw_iconst C dX10_basic_116 ?_
      refine pw_goto (tgt := 121) C dX10_basic_117 (by decide) ?_
      refine pw_callS (As := [.int (iZ 1)]) (st := []) C (m_X10_truth g l (q := true)) my_X10_truth ml_X10_386 rfl ⟨Nat.le_of_ble_eq_true rfl, Nat.le_of_ble_eq_true rfl⟩ ⟨by (try dsimp only); omega, by (try dsimp only); omega⟩ rfl (Nat.le_of_ble_eq_true rfl) dX10_basic_121 ?_
      rintro _ _ ⟨rfl, rfl⟩
      refine pw_stk (st' := [.int (iZ (b2i true))]) rfl ?_
      exact pw_iret C hr dX10_basic_124 (rBs.same h0 h7 h10 hR (by rw [hfe]; rw [show baseF (pm 6) A1 A2 = some (trO true) from by show some (trO (decide (A1 = oNil ∨ A2 ≠ oNil))) = _; rw [show (decide (A1 = oNil ∨ A2 ≠ oNil)) = true from decide_eq_true (Or.inl ((RS.inj hR hv1 hK.nil).mp (by omega)))]]; exact (RK.tr hK true)))
    · refine pw_iload C dX10_basic_111 rfl ?_
      refine pw_if_eq (tgt := 120) C (by omega) dX10_basic_113 (by decide) (fun h_24 => ?_) (fun h_24 => ?_)
      · refine pw_iconst C dX10_basic_120 ?_
        refine pw_callS (As := [.int (iZ 0)]) (st := []) C (m_X10_truth g l (q := false)) my_X10_truth ml_X10_386 rfl ⟨Nat.le_of_ble_eq_true rfl, Nat.le_of_ble_eq_true rfl⟩ ⟨by (try dsimp only); omega, by (try dsimp only); omega⟩ rfl (Nat.le_of_ble_eq_true rfl) dX10_basic_121 ?_
        rintro _ _ ⟨rfl, rfl⟩
        refine pw_stk (st' := [.int (iZ (b2i false))]) rfl ?_
        exact pw_iret C hr dX10_basic_124 (rBs.same h0 h7 h10 hR (by rw [hfe]; rw [show baseF (pm 6) A1 A2 = some (trO false) from by show some (trO (decide (A1 = oNil ∨ A2 ≠ oNil))) = _; rw [show (decide (A1 = oNil ∨ A2 ≠ oNil)) = false from decide_eq_false (fun e => e.elim (fun e => absurd ((RS.inj hR hv1 hK.nil).mpr e) (by omega)) (fun e => e ((RS.inj hR hb2 hK.nil).mp (by omega))))]]; exact (RK.tr hK false)))
      · refine pw_iconst C dX10_basic_116 ?_
        refine pw_goto (tgt := 121) C dX10_basic_117 (by decide) ?_
        refine pw_callS (As := [.int (iZ 1)]) (st := []) C (m_X10_truth g l (q := true)) my_X10_truth ml_X10_386 rfl ⟨Nat.le_of_ble_eq_true rfl, Nat.le_of_ble_eq_true rfl⟩ ⟨by (try dsimp only); omega, by (try dsimp only); omega⟩ rfl (Nat.le_of_ble_eq_true rfl) dX10_basic_121 ?_
        rintro _ _ ⟨rfl, rfl⟩
        refine pw_stk (st' := [.int (iZ (b2i true))]) rfl ?_
        exact pw_iret C hr dX10_basic_124 (rBs.same h0 h7 h10 hR (by rw [hfe]; rw [show baseF (pm 6) A1 A2 = some (trO true) from by show some (trO (decide (A1 = oNil ∨ A2 ≠ oNil))) = _; rw [show (decide (A1 = oNil ∨ A2 ≠ oNil)) = true from decide_eq_true (Or.inr (fun e => absurd ((RS.inj hR hb2 hK.nil).mpr e) (by omega)))]]; exact (RK.tr hK true)))
  by_cases h_25 : fz = 7
  · refine pw_tsIn (tgt := 125) (off := 107) C dX10_basic_18 (by omega) (by omega) (by omega) (by rw [h_25]; rfl) (by decide) ?_
    have hfe : pm fz.toNat = pm 7 := by rw [h_25]; rfl
    have hb2 := hv2 (by omega)
    have hb2r := Vl.rg hR hb2
    have am1 := RS.am hR hv1
    have am2 := RS.am hR hb2
    refine pw_aload_n (i := 0) C dX10_basic_125 rfl rfl (Or.inr ⟨_, rfl⟩) ?_
    refine pw_iload_n (i := 3) C dX10_basic_126 rfl rfl ?_
    refine pw_callV (As := [.int (iZ (fv fr))]) (st := []) C (m_X10_numberOf g l h0 hR h7 h10 hK hv1) my_X10_numberOf ml_X10_390 (pw_rec.of C h0 cl_X10.1) rfl ⟨Nat.le_of_ble_eq_true rfl, Nat.le_of_ble_eq_true rfl⟩ ⟨by (try dsimp only); omega, by (try dsimp only); omega⟩ rfl (Nat.le_of_ble_eq_true rfl) dX10_basic_127 ?_
    rintro _ _ ⟨rfl, rfl⟩
    refine pw_stk (st' := [.long (lZ (obAm A1))]) rfl ?_
    refine pw_ldc2 (z := 4611686018427387903) C kj_X10_226 (by decide) dX10_basic_130 ?_
    refine pw_aload_n (i := 0) C dX10_basic_133 rfl rfl (Or.inr ⟨_, rfl⟩) ?_
    refine pw_iload C dX10_basic_134 rfl ?_
    refine pw_callV (As := [.int (iZ (fv (fr + 1)))]) (st := [.long (lZ 4611686018427387903), .long (lZ (obAm A1))]) C (m_X10_numberOf g l h0 hR h7 h10 hK hb2) my_X10_numberOf ml_X10_390 (pw_rec.of C h0 cl_X10.1) rfl ⟨Nat.le_of_ble_eq_true rfl, Nat.le_of_ble_eq_true rfl⟩ ⟨by (try dsimp only); omega, by (try dsimp only); omega⟩ rfl (Nat.le_of_ble_eq_true rfl) dX10_basic_136 ?_
    rintro _ _ ⟨rfl, rfl⟩
    refine pw_stk (st' := [.long (lZ (obAm A2)), .long (lZ 4611686018427387903), .long (lZ (obAm A1))]) rfl ?_
    refine pw_lsub C dX10_basic_139 ?_
    refine pw_lcmp C (by omega) (by omega) dX10_basic_140 ?_
    refine pw_if_le (tgt := 148) C (cmpZ_in _ _) dX10_basic_141 (by decide) (fun h_26 => ?_) (fun h_26 => ?_)
    · have h_26 := cmpZ_le1 h_26
      refine pw_aload_n (i := 0) C dX10_basic_148 rfl rfl (Or.inr ⟨_, rfl⟩) ?_
      refine pw_aload_n (i := 0) C dX10_basic_149 rfl rfl (Or.inr ⟨_, rfl⟩) ?_
      refine pw_iload_n (i := 3) C dX10_basic_150 rfl rfl ?_
      refine pw_callV (As := [.int (iZ (fv fr))]) (st := [.ref b]) C (m_X10_numberOf g l h0 hR h7 h10 hK hv1) my_X10_numberOf ml_X10_390 (pw_rec.of C h0 cl_X10.1) rfl ⟨Nat.le_of_ble_eq_true rfl, Nat.le_of_ble_eq_true rfl⟩ ⟨by (try dsimp only); omega, by (try dsimp only); omega⟩ rfl (Nat.le_of_ble_eq_true rfl) dX10_basic_151 ?_
      rintro _ _ ⟨rfl, rfl⟩
      refine pw_stk (st' := [.long (lZ (obAm A1)), .ref b]) rfl ?_
      refine pw_aload_n (i := 0) C dX10_basic_154 rfl rfl (Or.inr ⟨_, rfl⟩) ?_
      refine pw_iload C dX10_basic_155 rfl ?_
      refine pw_callV (As := [.int (iZ (fv (fr + 1)))]) (st := [.long (lZ (obAm A1)), .ref b]) C (m_X10_numberOf g l h0 hR h7 h10 hK hb2) my_X10_numberOf ml_X10_390 (pw_rec.of C h0 cl_X10.1) rfl ⟨Nat.le_of_ble_eq_true rfl, Nat.le_of_ble_eq_true rfl⟩ ⟨by (try dsimp only); omega, by (try dsimp only); omega⟩ rfl (Nat.le_of_ble_eq_true rfl) dX10_basic_157 ?_
      rintro _ _ ⟨rfl, rfl⟩
      refine pw_stk (st' := [.long (lZ (obAm A2)), .long (lZ (obAm A1)), .ref b]) rfl ?_
      refine pw_ladd C dX10_basic_160 ?_
      refine pw_stk (st' := [.long (lZ (((obAm A1 + obAm A2).toNat : Nat) : Int)), .ref b]) (by rw [show (((obAm A1 + obAm A2).toNat : Nat) : Int) = ((obAm A1) + (obAm A2)) from (by omega)]) ?_
      refine pw_callV (As := [.long (lZ (((obAm A1 + obAm A2).toNat : Nat) : Int))]) (st := []) C (m_X10_natural g l h0 hR h7 h10 (v := (obAm A1 + obAm A2).toNat) (by omega) (by omega)) my_X10_natural ml_X10_232 (pw_rec.of C h0 cl_X10.1) rfl ⟨Nat.le_of_ble_eq_true rfl, Nat.le_of_ble_eq_true rfl⟩ ⟨by (try dsimp only); omega, by (try dsimp only); omega⟩ rfl (Nat.le_of_ble_eq_true rfl) dX10_basic_161 ?_
      rintro _ w_39 ⟨z_27, t_28, n_29, sN_30, Z_31, rfl, e_32, R_33, x_34, hn_35, hs_36, hZ_37, z_27v, o_38⟩
      have x_341 := x_34.1
      have R_33n := R_33.n
      have v_40 := Vl.ext hv1 x_34
      have v_41 := Vl.ext hb2 x_34
      have K_42 := RK.ext hK x_34
      have z_27r := Vl.rg R_33 z_27v
      refine pw_stk (st' := [.int (iZ z_27)]) rfl ?_
      exact pw_iret C hr dX10_basic_164 ⟨z_27, t_28, n_29, sN_30, Z_31, rfl, e_32, R_33, x_34, by omega, by omega, by rw [hfe]; rw [show baseF (pm 7) A1 A2 = some (.arg (obAm A1 + obAm A2).toNat) from if_pos (by unfold MOST; omega)]; exact z_27v, fun k hk => (o_38 k (by omega))⟩
    · have h_26 := cmpZ_gt1 h_26
      refine pw_iconst C dX10_basic_144 ?_
      refine pw_goto (tgt := 164) C dX10_basic_145 (by decide) ?_
      exact pw_iret C hr dX10_basic_164 (rBs.same h0 h7 h10 hR (by rw [hfe]; rw [show baseF (pm 7) A1 A2 = none from if_neg (by unfold MOST; omega)]))
  by_cases h_43 : fz = 8
  · refine pw_tsIn (tgt := 165) (off := 147) C dX10_basic_18 (by omega) (by omega) (by omega) (by rw [h_43]; rfl) (by decide) ?_
    have hfe : pm fz.toNat = pm 8 := by rw [h_43]; rfl
    have hb2 := hv2 (by omega)
    have hb2r := Vl.rg hR hb2
    have am1 := RS.am hR hv1
    have am2 := RS.am hR hb2
    refine pw_aload_n (i := 0) C dX10_basic_165 rfl rfl (Or.inr ⟨_, rfl⟩) ?_
    refine pw_aload_n (i := 0) C dX10_basic_166 rfl rfl (Or.inr ⟨_, rfl⟩) ?_
    refine pw_iload_n (i := 3) C dX10_basic_167 rfl rfl ?_
    refine pw_callV (As := [.int (iZ (fv fr))]) (st := [.ref b]) C (m_X10_numberOf g l h0 hR h7 h10 hK hv1) my_X10_numberOf ml_X10_390 (pw_rec.of C h0 cl_X10.1) rfl ⟨Nat.le_of_ble_eq_true rfl, Nat.le_of_ble_eq_true rfl⟩ ⟨by (try dsimp only); omega, by (try dsimp only); omega⟩ rfl (Nat.le_of_ble_eq_true rfl) dX10_basic_168 ?_
    rintro _ _ ⟨rfl, rfl⟩
    refine pw_stk (st' := [.long (lZ (obAm A1)), .ref b]) rfl ?_
    refine pw_aload_n (i := 0) C dX10_basic_171 rfl rfl (Or.inr ⟨_, rfl⟩) ?_
    refine pw_iload C dX10_basic_172 rfl ?_
    refine pw_callV (As := [.int (iZ (fv (fr + 1)))]) (st := [.long (lZ (obAm A1)), .ref b]) C (m_X10_numberOf g l h0 hR h7 h10 hK hb2) my_X10_numberOf ml_X10_390 (pw_rec.of C h0 cl_X10.1) rfl ⟨Nat.le_of_ble_eq_true rfl, Nat.le_of_ble_eq_true rfl⟩ ⟨by (try dsimp only); omega, by (try dsimp only); omega⟩ rfl (Nat.le_of_ble_eq_true rfl) dX10_basic_174 ?_
    rintro _ _ ⟨rfl, rfl⟩
    refine pw_stk (st' := [.long (lZ (obAm A2)), .long (lZ (obAm A1)), .ref b]) rfl ?_
    refine pw_lcmp C (by omega) (by omega) dX10_basic_177 ?_
    refine pw_if_le (tgt := 196) C (cmpZ_in _ _) dX10_basic_178 (by decide) (fun h_44 => ?_) (fun h_44 => ?_)
    · have h_44 := cmpZ_le1 h_44
      refine pw_lconst (z := 0) C dX10_basic_196 (by decide) ?_
      refine pw_stk (st' := [.long (lZ (((obAm A1 - obAm A2).toNat : Nat) : Int)), .ref b]) (by rw [show (((obAm A1 - obAm A2).toNat : Nat) : Int) = 0 from (by omega)]) ?_
      refine pw_callV (As := [.long (lZ (((obAm A1 - obAm A2).toNat : Nat) : Int))]) (st := []) C (m_X10_natural g l h0 hR h7 h10 (v := (obAm A1 - obAm A2).toNat) (by omega) (by omega)) my_X10_natural ml_X10_232 (pw_rec.of C h0 cl_X10.1) rfl ⟨Nat.le_of_ble_eq_true rfl, Nat.le_of_ble_eq_true rfl⟩ ⟨by (try dsimp only); omega, by (try dsimp only); omega⟩ rfl (Nat.le_of_ble_eq_true rfl) dX10_basic_197 ?_
      rintro _ w_57 ⟨z_45, t_46, n_47, sN_48, Z_49, rfl, e_50, R_51, x_52, hn_53, hs_54, hZ_55, z_45v, o_56⟩
      have x_521 := x_52.1
      have R_51n := R_51.n
      have v_58 := Vl.ext hv1 x_52
      have v_59 := Vl.ext hb2 x_52
      have K_60 := RK.ext hK x_52
      have z_45r := Vl.rg R_51 z_45v
      refine pw_stk (st' := [.int (iZ z_45)]) rfl ?_
      exact pw_iret C hr dX10_basic_200 ⟨z_45, t_46, n_47, sN_48, Z_49, rfl, e_50, R_51, x_52, by omega, by omega, by rw [hfe]; exact z_45v, fun k hk => (o_56 k (by omega))⟩
    · have h_44 := cmpZ_gt1 h_44
      refine pw_aload_n (i := 0) C dX10_basic_181 rfl rfl (Or.inr ⟨_, rfl⟩) ?_
      refine pw_iload_n (i := 3) C dX10_basic_182 rfl rfl ?_
      refine pw_callV (As := [.int (iZ (fv fr))]) (st := [.ref b]) C (m_X10_numberOf g l h0 hR h7 h10 hK hv1) my_X10_numberOf ml_X10_390 (pw_rec.of C h0 cl_X10.1) rfl ⟨Nat.le_of_ble_eq_true rfl, Nat.le_of_ble_eq_true rfl⟩ ⟨by (try dsimp only); omega, by (try dsimp only); omega⟩ rfl (Nat.le_of_ble_eq_true rfl) dX10_basic_183 ?_
      rintro _ _ ⟨rfl, rfl⟩
      refine pw_stk (st' := [.long (lZ (obAm A1)), .ref b]) rfl ?_
      refine pw_aload_n (i := 0) C dX10_basic_186 rfl rfl (Or.inr ⟨_, rfl⟩) ?_
      refine pw_iload C dX10_basic_187 rfl ?_
      refine pw_callV (As := [.int (iZ (fv (fr + 1)))]) (st := [.long (lZ (obAm A1)), .ref b]) C (m_X10_numberOf g l h0 hR h7 h10 hK hb2) my_X10_numberOf ml_X10_390 (pw_rec.of C h0 cl_X10.1) rfl ⟨Nat.le_of_ble_eq_true rfl, Nat.le_of_ble_eq_true rfl⟩ ⟨by (try dsimp only); omega, by (try dsimp only); omega⟩ rfl (Nat.le_of_ble_eq_true rfl) dX10_basic_189 ?_
      rintro _ _ ⟨rfl, rfl⟩
      refine pw_stk (st' := [.long (lZ (obAm A2)), .long (lZ (obAm A1)), .ref b]) rfl ?_
      refine pw_lsub C dX10_basic_192 ?_
      refine pw_goto (tgt := 197) C dX10_basic_193 (by decide) ?_
      refine pw_stk (st' := [.long (lZ (((obAm A1 - obAm A2).toNat : Nat) : Int)), .ref b]) (by rw [show (((obAm A1 - obAm A2).toNat : Nat) : Int) = ((obAm A1) - (obAm A2)) from (by omega)]) ?_
      refine pw_callV (As := [.long (lZ (((obAm A1 - obAm A2).toNat : Nat) : Int))]) (st := []) C (m_X10_natural g l h0 hR h7 h10 (v := (obAm A1 - obAm A2).toNat) (by omega) (by omega)) my_X10_natural ml_X10_232 (pw_rec.of C h0 cl_X10.1) rfl ⟨Nat.le_of_ble_eq_true rfl, Nat.le_of_ble_eq_true rfl⟩ ⟨by (try dsimp only); omega, by (try dsimp only); omega⟩ rfl (Nat.le_of_ble_eq_true rfl) dX10_basic_197 ?_
      rintro _ w_73 ⟨z_61, t_62, n_63, sN_64, Z_65, rfl, e_66, R_67, x_68, hn_69, hs_70, hZ_71, z_61v, o_72⟩
      have x_681 := x_68.1
      have R_67n := R_67.n
      have v_74 := Vl.ext hv1 x_68
      have v_75 := Vl.ext hb2 x_68
      have K_76 := RK.ext hK x_68
      have z_61r := Vl.rg R_67 z_61v
      refine pw_stk (st' := [.int (iZ z_61)]) rfl ?_
      exact pw_iret C hr dX10_basic_200 ⟨z_61, t_62, n_63, sN_64, Z_65, rfl, e_66, R_67, x_68, by omega, by omega, by rw [hfe]; exact z_61v, fun k hk => (o_72 k (by omega))⟩
  by_cases h_77 : fz = 9
  · refine pw_tsIn (tgt := 201) (off := 183) C dX10_basic_18 (by omega) (by omega) (by omega) (by rw [h_77]; rfl) (by decide) ?_
    have hfe : pm fz.toNat = pm 9 := by rw [h_77]; rfl
    have hb2 := hv2 (by omega)
    have hb2r := Vl.rg hR hb2
    have am1 := RS.am hR hv1
    have am2 := RS.am hR hb2
    refine pw_aload_n (i := 0) C dX10_basic_201 rfl rfl (Or.inr ⟨_, rfl⟩) ?_
    refine pw_iload_n (i := 3) C dX10_basic_202 rfl rfl ?_
    refine pw_callV (As := [.int (iZ (fv fr))]) (st := []) C (m_X10_numberOf g l h0 hR h7 h10 hK hv1) my_X10_numberOf ml_X10_390 (pw_rec.of C h0 cl_X10.1) rfl ⟨Nat.le_of_ble_eq_true rfl, Nat.le_of_ble_eq_true rfl⟩ ⟨by (try dsimp only); omega, by (try dsimp only); omega⟩ rfl (Nat.le_of_ble_eq_true rfl) dX10_basic_203 ?_
    rintro _ _ ⟨rfl, rfl⟩
    refine pw_stk (st' := [.long (lZ (obAm A1))]) rfl ?_
    refine pw_aload_n (i := 0) C dX10_basic_206 rfl rfl (Or.inr ⟨_, rfl⟩) ?_
    refine pw_iload C dX10_basic_207 rfl ?_
    refine pw_callV (As := [.int (iZ (fv (fr + 1)))]) (st := [.long (lZ (obAm A1))]) C (m_X10_numberOf g l h0 hR h7 h10 hK hb2) my_X10_numberOf ml_X10_390 (pw_rec.of C h0 cl_X10.1) rfl ⟨Nat.le_of_ble_eq_true rfl, Nat.le_of_ble_eq_true rfl⟩ ⟨by (try dsimp only); omega, by (try dsimp only); omega⟩ rfl (Nat.le_of_ble_eq_true rfl) dX10_basic_209 ?_
    rintro _ _ ⟨rfl, rfl⟩
    refine pw_stk (st' := [.long (lZ (obAm A2)), .long (lZ (obAm A1))]) rfl ?_
    refine pw_lcmp C (by omega) (by omega) dX10_basic_212 ?_
    refine pw_if_ge (tgt := 220) C (cmpZ_in _ _) dX10_basic_213 (by decide) (fun h_78 => ?_) (fun h_78 => ?_)
    · have h_78 := cmpZ_ge1 h_78
      refine pw_iconst C dX10_basic_220 ?_
      refine pw_callS (As := [.int (iZ 0)]) (st := []) C (m_X10_truth g l (q := false)) my_X10_truth ml_X10_386 rfl ⟨Nat.le_of_ble_eq_true rfl, Nat.le_of_ble_eq_true rfl⟩ ⟨by (try dsimp only); omega, by (try dsimp only); omega⟩ rfl (Nat.le_of_ble_eq_true rfl) dX10_basic_221 ?_
      rintro _ _ ⟨rfl, rfl⟩
      refine pw_stk (st' := [.int (iZ (b2i false))]) rfl ?_
      exact pw_iret C hr dX10_basic_224 (rBs.same h0 h7 h10 hR (by rw [hfe]; rw [show baseF (pm 9) A1 A2 = some (trO false) from by show some (trO (decide (obAm A1 < obAm A2))) = _; rw [show (decide (obAm A1 < obAm A2)) = false from decide_eq_false (by omega)]]; exact (RK.tr hK false)))
    · have h_78 := cmpZ_lt1 h_78
      refine pw_iconst C dX10_basic_216 ?_
      refine pw_goto (tgt := 221) C dX10_basic_217 (by decide) ?_
      refine pw_callS (As := [.int (iZ 1)]) (st := []) C (m_X10_truth g l (q := true)) my_X10_truth ml_X10_386 rfl ⟨Nat.le_of_ble_eq_true rfl, Nat.le_of_ble_eq_true rfl⟩ ⟨by (try dsimp only); omega, by (try dsimp only); omega⟩ rfl (Nat.le_of_ble_eq_true rfl) dX10_basic_221 ?_
      rintro _ _ ⟨rfl, rfl⟩
      refine pw_stk (st' := [.int (iZ (b2i true))]) rfl ?_
      exact pw_iret C hr dX10_basic_224 (rBs.same h0 h7 h10 hR (by rw [hfe]; rw [show baseF (pm 9) A1 A2 = some (trO true) from by show some (trO (decide (obAm A1 < obAm A2))) = _; rw [show (decide (obAm A1 < obAm A2)) = true from decide_eq_true (by omega)]]; exact (RK.tr hK true)))
  by_cases h_79 : fz = 10
  · refine pw_tsIn (tgt := 225) (off := 207) C dX10_basic_18 (by omega) (by omega) (by omega) (by rw [h_79]; rfl) (by decide) ?_
    have hfe : pm fz.toNat = pm 10 := by rw [h_79]; rfl
    refine pw_aload_n (i := 0) C dX10_basic_225 rfl rfl (Or.inr ⟨_, rfl⟩) ?_
    refine pw_iload_n (i := 3) C dX10_basic_226 rfl rfl ?_
    refine pw_callV (As := [.int (iZ (fv fr))]) (st := []) C (m_X10_isPair g l h0 hR h7 h10 hv1) my_X10_isPair ml_X10_195 (pw_rec.of C h0 cl_X10.1) rfl ⟨Nat.le_of_ble_eq_true rfl, Nat.le_of_ble_eq_true rfl⟩ ⟨by (try dsimp only); omega, by (try dsimp only); omega⟩ rfl (Nat.le_of_ble_eq_true rfl) dX10_basic_227 ?_
    rintro _ _ ⟨rfl, rfl⟩
    refine pw_stk (st' := [.int (iZ (b2i (obP A1)))]) rfl ?_
    refine pw_callS (As := [.int (iZ (b2i (obP A1)))]) (st := []) C (m_X10_truth g l (q := (obP A1))) my_X10_truth ml_X10_386 rfl ⟨Nat.le_of_ble_eq_true rfl, Nat.le_of_ble_eq_true rfl⟩ ⟨by (try dsimp only); omega, by (try dsimp only); omega⟩ rfl (Nat.le_of_ble_eq_true rfl) dX10_basic_230 ?_
    rintro _ _ ⟨rfl, rfl⟩
    refine pw_stk (st' := [.int (iZ (b2i (obP A1)))]) rfl ?_
    exact pw_iret C hr dX10_basic_233 (rBs.same h0 h7 h10 hR (by rw [hfe]; exact (RK.tr hK (obP A1))))
  by_cases h_80 : fz = 11
  · refine pw_tsIn (tgt := 234) (off := 216) C dX10_basic_18 (by omega) (by omega) (by omega) (by rw [h_80]; rfl) (by decide) ?_
    have hfe : pm fz.toNat = pm 11 := by rw [h_80]; rfl
    refine pw_aload_n (i := 0) C dX10_basic_234 rfl rfl (Or.inr ⟨_, rfl⟩) ?_
    refine pw_iload_n (i := 3) C dX10_basic_235 rfl rfl ?_
    refine pw_callV (As := [.int (iZ (fv fr))]) (st := []) C (m_X10_isPair g l h0 hR h7 h10 hv1) my_X10_isPair ml_X10_195 (pw_rec.of C h0 cl_X10.1) rfl ⟨Nat.le_of_ble_eq_true rfl, Nat.le_of_ble_eq_true rfl⟩ ⟨by (try dsimp only); omega, by (try dsimp only); omega⟩ rfl (Nat.le_of_ble_eq_true rfl) dX10_basic_236 ?_
    rintro _ _ ⟨rfl, rfl⟩
    refine pw_stk (st' := [.int (iZ (b2i (obP A1)))]) rfl ?_
    refine pw_if_eqB (tgt := 251) C dX10_basic_239 (by decide) (fun h_81 => ?_) (fun h_81 => ?_)
    · refine pw_iconst C dX10_basic_251 ?_
      exact pw_iret C hr dX10_basic_252 (rBs.same h0 h7 h10 hR (by rw [hfe]; rw [show baseF (pm 11) A1 A2 = some oNil from by show some (obCar A1) = _; rw [(obLen_car h_81).1]]; exact hK.nil))
    · have hcc := (hln _ _ hv1).1 h_81
      refine pw_aload_n (i := 0) C dX10_basic_242 rfl rfl (Or.inr ⟨_, rfl⟩) ?_
      refine pw_get (j := 0) C cl_X10 fl_X10_8 (by decide) rfl h0 rfl dX10_basic_243 ?_
      refine pw_stk (st' := [.ref (B 0)]) rfl ?_
      refine pw_iload_n (i := 3) C dX10_basic_246 rfl rfl ?_
      have g_82 := m0 (fv fr)
      refine pw_iald C l0 ⟨by omega, by omega, by omega⟩ dX10_basic_247 ?_
      refine pw_goto (tgt := 252) C dX10_basic_248 (by decide) ?_
      exact pw_iret C hr dX10_basic_252 (rBs.same h0 h7 h10 hR (by rw [hfe]; exact hcc.1))
  by_cases h_83 : fz = 12
  · refine pw_tsIn (tgt := 253) (off := 235) C dX10_basic_18 (by omega) (by omega) (by omega) (by rw [h_83]; rfl) (by decide) ?_
    have hfe : pm fz.toNat = pm 12 := by rw [h_83]; rfl
    refine pw_aload_n (i := 0) C dX10_basic_253 rfl rfl (Or.inr ⟨_, rfl⟩) ?_
    refine pw_iload_n (i := 3) C dX10_basic_254 rfl rfl ?_
    refine pw_callV (As := [.int (iZ (fv fr))]) (st := []) C (m_X10_isPair g l h0 hR h7 h10 hv1) my_X10_isPair ml_X10_195 (pw_rec.of C h0 cl_X10.1) rfl ⟨Nat.le_of_ble_eq_true rfl, Nat.le_of_ble_eq_true rfl⟩ ⟨by (try dsimp only); omega, by (try dsimp only); omega⟩ rfl (Nat.le_of_ble_eq_true rfl) dX10_basic_255 ?_
    rintro _ _ ⟨rfl, rfl⟩
    refine pw_stk (st' := [.int (iZ (b2i (obP A1)))]) rfl ?_
    refine pw_if_eqB (tgt := 270) C dX10_basic_258 (by decide) (fun h_84 => ?_) (fun h_84 => ?_)
    · refine pw_iconst C dX10_basic_270 ?_
      exact pw_iret C hr dX10_basic_271 (rBs.same h0 h7 h10 hR (by rw [hfe]; rw [show baseF (pm 12) A1 A2 = some oNil from by show some (obCdr A1) = _; rw [(obLen_car h_84).2]]; exact hK.nil))
    · have hcc := (hln _ _ hv1).1 h_84
      refine pw_aload_n (i := 0) C dX10_basic_261 rfl rfl (Or.inr ⟨_, rfl⟩) ?_
      refine pw_get (j := 1) C cl_X10 fl_X10_14 (by decide) rfl h0 rfl dX10_basic_262 ?_
      refine pw_stk (st' := [.ref (B 1)]) rfl ?_
      refine pw_iload_n (i := 3) C dX10_basic_265 rfl rfl ?_
      have g_85 := m1 (fv fr)
      refine pw_iald C l1 ⟨by omega, by omega, by omega⟩ dX10_basic_266 ?_
      refine pw_goto (tgt := 271) C dX10_basic_267 (by decide) ?_
      exact pw_iret C hr dX10_basic_271 (rBs.same h0 h7 h10 hR (by rw [hfe]; exact hcc.2))
  by_cases h_86 : fz = 13
  · refine pw_tsIn (tgt := 272) (off := 254) C dX10_basic_18 (by omega) (by omega) (by omega) (by rw [h_86]; rfl) (by decide) ?_
    have hfe : pm fz.toNat = pm 13 := by rw [h_86]; rfl
    refine pw_aload_n (i := 0) C dX10_basic_272 rfl rfl (Or.inr ⟨_, rfl⟩) ?_
    refine pw_iload_n (i := 3) C dX10_basic_273 rfl rfl ?_
    refine pw_callV (As := [.int (iZ (fv fr))]) (st := []) C (m_X10_isNatural g l h0 hR h7 h10 hv1) my_X10_isNatural ml_X10_289 (pw_rec.of C h0 cl_X10.1) rfl ⟨Nat.le_of_ble_eq_true rfl, Nat.le_of_ble_eq_true rfl⟩ ⟨by (try dsimp only); omega, by (try dsimp only); omega⟩ rfl (Nat.le_of_ble_eq_true rfl) dX10_basic_274 ?_
    rintro _ _ ⟨rfl, rfl⟩
    refine pw_stk (st' := [.int (iZ (b2i (obN A1)))]) rfl ?_
    refine pw_callS (As := [.int (iZ (b2i (obN A1)))]) (st := []) C (m_X10_truth g l (q := (obN A1))) my_X10_truth ml_X10_386 rfl ⟨Nat.le_of_ble_eq_true rfl, Nat.le_of_ble_eq_true rfl⟩ ⟨by (try dsimp only); omega, by (try dsimp only); omega⟩ rfl (Nat.le_of_ble_eq_true rfl) dX10_basic_277 ?_
    rintro _ _ ⟨rfl, rfl⟩
    refine pw_stk (st' := [.int (iZ (b2i (obN A1)))]) rfl ?_
    exact pw_iret C hr dX10_basic_280 (rBs.same h0 h7 h10 hR (by rw [hfe]; exact (RK.tr hK (obN A1))))
  by_cases h_87 : fz = 14
  · refine pw_tsIn (tgt := 281) (off := 263) C dX10_basic_18 (by omega) (by omega) (by omega) (by rw [h_87]; rfl) (by decide) ?_
    have hfe : pm fz.toNat = pm 14 := by rw [h_87]; rfl
    refine pw_aload_n (i := 0) C dX10_basic_281 rfl rfl (Or.inr ⟨_, rfl⟩) ?_
    refine pw_iload_n (i := 3) C dX10_basic_282 rfl rfl ?_
    refine pw_callV (As := [.int (iZ (fv fr))]) (st := []) C (m_X10_isSymbol g l h0 hR h7 h10 hv1) my_X10_isSymbol ml_X10_268 (pw_rec.of C h0 cl_X10.1) rfl ⟨Nat.le_of_ble_eq_true rfl, Nat.le_of_ble_eq_true rfl⟩ ⟨by (try dsimp only); omega, by (try dsimp only); omega⟩ rfl (Nat.le_of_ble_eq_true rfl) dX10_basic_283 ?_
    rintro _ _ ⟨rfl, rfl⟩
    refine pw_stk (st' := [.int (iZ (b2i (obS A1)))]) rfl ?_
    refine pw_callS (As := [.int (iZ (b2i (obS A1)))]) (st := []) C (m_X10_truth g l (q := (obS A1))) my_X10_truth ml_X10_386 rfl ⟨Nat.le_of_ble_eq_true rfl, Nat.le_of_ble_eq_true rfl⟩ ⟨by (try dsimp only); omega, by (try dsimp only); omega⟩ rfl (Nat.le_of_ble_eq_true rfl) dX10_basic_286 ?_
    rintro _ _ ⟨rfl, rfl⟩
    refine pw_stk (st' := [.int (iZ (b2i (obS A1)))]) rfl ?_
    exact pw_iret C hr dX10_basic_289 (rBs.same h0 h7 h10 hR (by rw [hfe]; exact (RK.tr hK (obS A1))))
  by_cases h_88 : fz = 15
  · refine pw_tsIn (tgt := 302) (off := 284) C dX10_basic_18 (by omega) (by omega) (by omega) (by rw [h_88]; rfl) (by decide) ?_
    have hfe : pm fz.toNat = pm 15 := by rw [h_88]; rfl
    refine pw_iload_n (i := 3) C dX10_basic_302 rfl rfl ?_
    refine pw_if_ne (tgt := 310) C (by omega) dX10_basic_303 (by decide) (fun h_89 => ?_) (fun h_89 => ?_)
    · refine pw_iconst C dX10_basic_310 ?_
      refine pw_callS (As := [.int (iZ 0)]) (st := []) C (m_X10_truth g l (q := false)) my_X10_truth ml_X10_386 rfl ⟨Nat.le_of_ble_eq_true rfl, Nat.le_of_ble_eq_true rfl⟩ ⟨by (try dsimp only); omega, by (try dsimp only); omega⟩ rfl (Nat.le_of_ble_eq_true rfl) dX10_basic_311 ?_
      rintro _ _ ⟨rfl, rfl⟩
      refine pw_stk (st' := [.int (iZ (b2i false))]) rfl ?_
      exact pw_iret C hr dX10_basic_314 (rBs.same h0 h7 h10 hR (by rw [hfe]; rw [show baseF (pm 15) A1 A2 = some (trO false) from by show some (trO (decide (A1 = oNil))) = _; rw [show (decide (A1 = oNil)) = false from decide_eq_false (fun e => absurd ((RS.inj hR hv1 hK.nil).mpr e) (by omega))]]; exact (RK.tr hK false)))
    · refine pw_iconst C dX10_basic_306 ?_
      refine pw_goto (tgt := 311) C dX10_basic_307 (by decide) ?_
      refine pw_callS (As := [.int (iZ 1)]) (st := []) C (m_X10_truth g l (q := true)) my_X10_truth ml_X10_386 rfl ⟨Nat.le_of_ble_eq_true rfl, Nat.le_of_ble_eq_true rfl⟩ ⟨by (try dsimp only); omega, by (try dsimp only); omega⟩ rfl (Nat.le_of_ble_eq_true rfl) dX10_basic_311 ?_
      rintro _ _ ⟨rfl, rfl⟩
      refine pw_stk (st' := [.int (iZ (b2i true))]) rfl ?_
      exact pw_iret C hr dX10_basic_314 (rBs.same h0 h7 h10 hR (by rw [hfe]; rw [show baseF (pm 15) A1 A2 = some (trO true) from by show some (trO (decide (A1 = oNil))) = _; rw [show (decide (A1 = oNil)) = true from decide_eq_true ((RS.inj hR hv1 hK.nil).mp (by omega))]]; exact (RK.tr hK true)))
  by_cases h_90 : fz = 16
  · refine pw_tsIn (tgt := 290) (off := 272) C dX10_basic_18 (by omega) (by omega) (by omega) (by rw [h_90]; rfl) (by decide) ?_
    have hfe : pm fz.toNat = pm 16 := by rw [h_90]; rfl
    have hh4 := (hln _ _ hv1).2.2.2.2.1
    have hh5 := RS.htb hR hv1
    refine pw_aload_n (i := 0) C dX10_basic_290 rfl rfl (Or.inr ⟨_, rfl⟩) ?_
    refine pw_aload_n (i := 0) C dX10_basic_291 rfl rfl (Or.inr ⟨_, rfl⟩) ?_
    refine pw_get (j := 4) C cl_X10 fl_X10_23 (by decide) rfl h0 rfl dX10_basic_292 ?_
    refine pw_stk (st' := [.ref (B 4), .ref b]) rfl ?_
    refine pw_iload_n (i := 3) C dX10_basic_295 rfl rfl ?_
    have g_91 := m4 (fv fr)
    refine pw_iald C l4 ⟨by omega, by omega, by omega⟩ dX10_basic_296 ?_
    refine pw_i2l C (by omega) dX10_basic_297 ?_
    refine pw_stk (st' := [.long (lZ (((obHt A1).toNat : Nat) : Int)), .ref b]) (by rw [show (((obHt A1).toNat : Nat) : Int) = fH (fv fr) from (by rw [hh4]; omega)]) ?_
    refine pw_callV (As := [.long (lZ (((obHt A1).toNat : Nat) : Int))]) (st := []) C (m_X10_natural g l h0 hR h7 h10 (v := (obHt A1).toNat) (by omega) (by omega)) my_X10_natural ml_X10_232 (pw_rec.of C h0 cl_X10.1) rfl ⟨Nat.le_of_ble_eq_true rfl, Nat.le_of_ble_eq_true rfl⟩ ⟨by (try dsimp only); omega, by (try dsimp only); omega⟩ rfl (Nat.le_of_ble_eq_true rfl) dX10_basic_298 ?_
    rintro _ w_104 ⟨z_92, t_93, n_94, sN_95, Z_96, rfl, e_97, R_98, x_99, hn_100, hs_101, hZ_102, z_92v, o_103⟩
    have x_991 := x_99.1
    have R_98n := R_98.n
    have v_105 := Vl.ext hv1 x_99
    have K_106 := RK.ext hK x_99
    have z_92r := Vl.rg R_98 z_92v
    refine pw_stk (st' := [.int (iZ z_92)]) rfl ?_
    exact pw_iret C hr dX10_basic_301 ⟨z_92, t_93, n_94, sN_95, Z_96, rfl, e_97, R_98, x_99, by omega, by omega, by rw [hfe]; exact z_92v, fun k hk => (o_103 k (by omega))⟩
  exfalso; omega

