theorem CmP.fr {g : pw_P} {w w1 w' : pw_W} {A : Nat → Nat} {cap : Nat} {t : Int → Ob} {n : Int} {fu : Nat} {kp mo mo' : Int} {R : Cr × List Dn} {r : Option Value} (h : CmP g w1 w' A cap t n fu kp mo R r) (hm : mo ≤ mo') (hf : ∀ k, (k < 2 ∨ (7 < k ∧ k < 16) ∨ (22 < k ∧ k < 100) ∨ 899 < k) → w1 k = w k) : CmP g w w' A cap t n fu kp mo' R r := by
  obtain ⟨t', n', rs', kp', D', ds', h1, h2, h3, h4, h5, h6, h7, h8, h9, h10, h11, h12⟩ := h
  exact ⟨t', n', rs', kp', D', ds', h1, h2, h3, by omega, h5, h6, h7, h8, h9, h10, h11, fun k hk => (h12 k hk).trans (hf k hk)⟩
theorem CmQ.Px {g : pw_P} {w w1 w' : pw_W} {A D : Nat → Nat} {cap : Nat} {t t1 : Int → Ob} {n n1 : Int} {ds : List Df} {T : List Dn} {fu : Nat} {kp mo mo' : Int} {R : Cr} {r : Option Value} (h : CmQ g w1 w' A D cap t1 n1 ds fu (-1) kp mo R r) (he : Ext t n t1 n1) (hm : n1 + mo ≤ n + mo') (hD : DsT t kp ds T) (hk : 24 ≤ kp ∧ kp ≤ n) (hf : ∀ k, (k < 2 ∨ (7 < k ∧ k < 16) ∨ (22 < k ∧ k < 100) ∨ 899 < k) → w1 k = w k) : CmP g w w' A cap t n fu kp mo' (R, T) r := by
  obtain ⟨t', n', rs', h1, h2, h3, h4, h5, h6, h7, h8, h9, h10⟩ := h
  have h31 := h3.1
  have h32 := he.tr h3
  have h33 := he.1
  exact ⟨t', n', rs', kp, D, ds, h1, h2, h32, by omega, h5, hD.ext ⟨Int.le_refl _, fun i i0 i1 => h32.2 i i0 (by omega)⟩, ⟨hk.1, by omega, Or.inl rfl⟩, h6, h7, h8, h9, fun k hk => (h10 k hk).trans (hf k hk)⟩
theorem CmP.two {g : pw_P} {w w' : pw_W} {A D : Nat → Nat} {cap : Nat} {t : Int → Ob} {n : Int} {ds : List Df} {T : List Dn} {fu nk : Nat} {kp mo : Int} (hS : SB g w' (A 2) cap t n) (hF : FnI g w' A D ds) (hD : DsT t kp ds T) (hk : 24 ≤ kp ∧ kp ≤ n) (hI : EvI g w' A fu 0 0 nk) (hM : TmJ g w' A) (hC : w' 20 = (A 20, some (cmE A (-1) kp))) (hm : 0 ≤ mo) (hf : ∀ k, (k < 2 ∨ (7 < k ∧ k < 16) ∨ (22 < k ∧ k < 100) ∨ 899 < k) → w' k = w k) : CmP g w w' A cap t n fu kp mo (cB T nk) (some (.int (iZ 2))) :=
  ⟨t, n, -1, kp, D, ds, rfl, hS, Ext.rf, by omega, hF, hD, ⟨hk.1, hk.2, Or.inl rfl⟩, hI, hM, hC, rfl, hf⟩
theorem bvF_dom : ∀ (B acc Vs : Ob), bvF B acc = some Vs → ∀ q, obEl q Vs = true → obEl q acc = true ∨ eHas (bEnv B) q = true := by
  intro B
  induction B with
  | add b bs hb hbs =>
    intro acc Vs h q hq
    simp only [bvF] at h
    split at h
    · rcases hbs _ _ h q hq with h1 | h1
      · simp only [obEl] at h1
        by_cases e : obCar b = q
        · right; simp only [bEnv, eHas]; rw [if_pos e]
        · rw [if_neg e] at h1; exact Or.inl h1
      · right; simp only [bEnv, eHas]; split
        · rfl
        · exact h1
    · cases h
  | _ => intro acc Vs h q hq; cases h; exact Or.inl hq
theorem bVs_dom {B Vs : Ob} (h : bVs B = some Vs) (q : Ob) (hq : obEl q Vs = true) : eHas (bEnv B) q = true := by
  unfold bVs at h
  split at h
  · cases h
  · rcases bvF_dom _ _ _ h q hq with h1 | h1
    · exact absurd h1 (by simp [obEl, oNil])
    · exact h1
theorem cmdF_no {T : List Dn} {fu nk : Nat} {X : Ob} (h : kIx (obCar X) < 17 ∨ 23 < kIx (obCar X)) : cmdF T fu nk X = cB T nk := by
  unfold cmdF
  split <;> first | rfl | omega
set_option maxRecDepth 100000 in
set_option maxHeartbeats 4000000 in
/-- perform -/
theorem m_X1_perform (g : pw_P) (l : Launch) {w : pw_W} {A : Nat → Nat} {cap : Nat} {t : Int → Ob} {n rs kp : Int} (hS : SB g w (A 2) cap t n) (hC : w 20 = (A 20, some (cmE A rs kp))) {D : Nat → Nat} {ds : List Df} {T : List Dn} (hF : FnI g w A D ds) (hDk : DsT t kp ds T) (hkp : 24 ≤ kp ∧ kp ≤ n) (hM : TmJ g w A) {fu nk : Nat} (hI : EvI g w A fu 0 0 nk) (hT : TOk T) (hTs : TSz T) (hfu : fu ≤ 1000) {x wd : Int} {X : Ob} (hx : Vl t n x X) (hwd : obLen (obCar (obCdr X)) ≤ wd ∧ obLen (obCar (obCdr (obCdr X))) ≤ wd ∧ 0 ≤ wd) (hsp : spL (obCar (obCdr X)) ≤ 1000) (hcap : n + fu + wd + 244 ≤ cap) : pw_M g l yX1_perform cX1_perform 5 (some .int) { frames := 6, cells := 600, slots := 3900, locals := 148 } [.ref (A 20), .int (iZ x)] w (fun r w' => CmP g w w' A cap t n fu kp (fu + wd + 244) (cmdF T fu nk X) r) := by
  refine pw_M.of (by decide) (Nat.le_of_ble_eq_true rfl) rfl ?_
  intro p e s m args below meth c C hr hn
  have hn0 := hS.n
  have hD : DsT t n ds T := hDk.ext ⟨hkp.2, fun _ _ _ => rfl⟩
  have hxr := Vl.rng hS hx
  have hxl := obLen_ge X
  have hxh := Vl.ht hS hx
  have hxo := obLen_le_ht X
  refine pw_aload_n (i := 0) C dX1_perform_0 rfl rfl (Or.inr ⟨_, rfl⟩) ?_
  refine pw_get (j := 0) C cl_X1 fl_X1_9 (by decide) rfl hC rfl dX1_perform_1 ?_
  refine pw_iload_n (i := 1) C dX1_perform_4 rfl rfl ?_
  refine pw_callV (As := [.int (iZ x)]) (st := []) C (vr_lengthOf hS hx) my_X6_lengthOf ml_X1_47 (hS.rec C) rfl ⟨Nat.le_of_ble_eq_true rfl, Nat.le_of_ble_eq_true rfl⟩ ⟨by (try dsimp only); omega, by (try dsimp only); omega⟩ rfl (Nat.le_of_ble_eq_true rfl) dX1_perform_5 ?_
  rintro _ _ ⟨rfl, rfl⟩
  refine pw_stk (st' := [.int (iZ (obLen X))]) rfl ?_
  refine pw_istore_n (i := 2) (lv' := [(0, .ref (A 20)), (1, .int (iZ x)), (2, .int (iZ (obLen X)))]) C dX1_perform_8 rfl (by decide) rfl ?_
  refine pw_aload_n (i := 0) C dX1_perform_9 rfl rfl (Or.inr ⟨_, rfl⟩) ?_
  refine pw_get (j := 0) C cl_X1 fl_X1_9 (by decide) rfl hC rfl dX1_perform_10 ?_
  refine pw_iload_n (i := 1) C dX1_perform_13 rfl rfl ?_
  refine pw_callV (As := [.int (iZ x)]) (st := []) C (vr_second hS hx) my_X6_second ml_X1_51 (hS.rec C) rfl ⟨Nat.le_of_ble_eq_true rfl, Nat.le_of_ble_eq_true rfl⟩ ⟨by (try dsimp only); omega, by (try dsimp only); omega⟩ rfl (Nat.le_of_ble_eq_true rfl) dX1_perform_14 ?_
  rintro _ _ ⟨rfl, z_1, rfl, z_1v⟩
  have z_1r := Vl.rng hS z_1v
  refine pw_stk (st' := [.int (iZ z_1)]) rfl ?_
  refine pw_istore_n (i := 3) (lv' := [(0, .ref (A 20)), (1, .int (iZ x)), (2, .int (iZ (obLen X))), (3, .int (iZ z_1))]) C dX1_perform_17 rfl (by decide) rfl ?_
  refine pw_aload_n (i := 0) C dX1_perform_18 rfl rfl (Or.inr ⟨_, rfl⟩) ?_
  refine pw_get (j := 0) C cl_X1 fl_X1_9 (by decide) rfl hC rfl dX1_perform_19 ?_
  refine pw_iload_n (i := 1) C dX1_perform_22 rfl rfl ?_
  refine pw_callV (As := [.int (iZ x)]) (st := []) C (vr_third hS hx) my_X6_third ml_X1_54 (hS.rec C) rfl ⟨Nat.le_of_ble_eq_true rfl, Nat.le_of_ble_eq_true rfl⟩ ⟨by (try dsimp only); omega, by (try dsimp only); omega⟩ rfl (Nat.le_of_ble_eq_true rfl) dX1_perform_23 ?_
  rintro _ _ ⟨rfl, z_2, rfl, z_2v⟩
  have z_2r := Vl.rng hS z_2v
  refine pw_stk (st' := [.int (iZ z_2)]) rfl ?_
  refine pw_istore (lv' := [(0, .ref (A 20)), (1, .int (iZ x)), (2, .int (iZ (obLen X))), (3, .int (iZ z_1)), (4, .int (iZ z_2))]) C dX1_perform_26 (by decide) rfl ?_
  refine pw_aload_n (i := 0) C dX1_perform_28 rfl rfl (Or.inr ⟨_, rfl⟩) ?_
  refine pw_iconst C dX1_perform_29 ?_
  refine pw_put (j := 4) C cl_X1 fl_X1_57 (by decide) rfl rfl rfl rfl rfl hC (Nat.le_of_ble_eq_true rfl) dX1_perform_30 (fun w_5 k_3 o_4 => ?_)
  have k_6 : w_5 20 = ((A 20), some (OB 1 [.ref (A 2), .ref (A 16), .ref (A 18), .ref (A 21), .int (iZ (-1)), .int (iZ kp)])) := k_3
  have hSx := hS.same (w' := w_5) (fun k h1 h2 => (o_4 k (by omega)))
  have hFx := hF.same (w' := w_5) (fun k h => (o_4 k (by omega)))
  have hMx := hM.same (w' := w_5) (fun k h => (o_4 k (by omega)))
  have hIx := hI.same (w' := w_5) (fun k h => (o_4 k (by omega)))
  have hCx : w_5 20 = (A 20, some (cmE A (-1) kp)) := k_6
  have hfx : ∀ k, (k < 2 ∨ (7 < k ∧ k < 16) ∨ (22 < k ∧ k < 100) ∨ 899 < k) → w_5 k = w k := fun k hk => (o_4 k (by omega))
  refine pw_aload_n (i := 0) C dX1_perform_33 rfl rfl (Or.inr ⟨_, rfl⟩) ?_
  refine pw_get (j := 0) C cl_X1 fl_X1_9 (by decide) rfl k_6 rfl dX1_perform_34 ?_
  refine pw_iload_n (i := 1) C dX1_perform_37 rfl rfl ?_
  refine pw_callV (As := [.int (iZ x)]) (st := []) C (vr_head hSx hx) my_X6_head ml_X1_60 (hSx.rec C) rfl ⟨Nat.le_of_ble_eq_true rfl, Nat.le_of_ble_eq_true rfl⟩ ⟨by (try dsimp only); omega, by (try dsimp only); omega⟩ rfl (Nat.le_of_ble_eq_true rfl) dX1_perform_38 ?_
  rintro _ _ ⟨rfl, z_7, rfl, z_7v⟩
  have z_7r := Vl.rng hSx z_7v
  refine pw_stk (st' := [.int (iZ z_7)]) rfl ?_
  have hkx := Vl.kix hSx z_7v
  by_cases h_8 : z_7 = 17
  · refine pw_tsIn (tgt := 84) (off := 43) C dX1_perform_41 (by omega) (by omega) (by omega) (by rw [h_8]; rfl) (by decide) ?_
    have hk : kIx (obCar X) = 17 := by rw [h_8] at hkx; split at hkx <;> omega
    refine pw_iload_n (i := 2) C dX1_perform_84 rfl rfl ?_
    refine pw_iconst C dX1_perform_85 ?_
    refine pw_icmp_ne (tgt := 99) C (by omega) (by omega) dX1_perform_86 (by decide) (fun h_9 => ?_) (fun h_9 => ?_)
    · refine pw_iconst C dX1_perform_99 ?_
      refine pw_wide 600 3900 (by (try dsimp only); omega) (by (try dsimp only); omega) ?_
      refine pw_iret C hr dX1_perform_100 ?_
      rw [show cmdF T fu nk X = cB T nk from by unfold cmdF; rw [hk]; simp only; rw [if_neg (by omega)]]
      exact CmP.two hSx hFx hDk hkp hIx hMx hCx (by omega) hfx
    · refine pw_aload_n (i := 0) C dX1_perform_89 rfl rfl (Or.inr ⟨_, rfl⟩) ?_
      refine pw_iconst C dX1_perform_90 ?_
      refine pw_iconst C dX1_perform_91 ?_
      refine pw_iload_n (i := 3) C dX1_perform_92 rfl rfl ?_
      refine pw_callV (As := [.int (iZ 0), .int (iZ 0), .int (iZ z_1)]) (st := []) C (m_X1_evaluate g l hSx hCx hFx hD hMx hIx hT hfu (vz := 0) (bz := 0) (B := oNil) (R := evC T fu nk oNil oNil (obCar (obCdr X))) (by decide) (Vl.nil hSx) (by decide) z_1v (by omega) (Or.inr ⟨oNil, Vl.nil hSx, rfl, fun q hq => absurd hq (by simp [obEl, oNil])⟩)) my_X1_evaluate ml_X1_63 (pw_rec.of C hCx cl_X1.1) rfl ⟨Nat.le_of_ble_eq_true rfl, Nat.le_of_ble_eq_true rfl⟩ ⟨by (try dsimp only); omega, by (try dsimp only); omega⟩ rfl (Nat.le_of_ble_eq_true rfl) dX1_perform_93 ?_
      rintro _ w_10 hP0
      have hP := CmQ.Px (mo' := fu + wd + 244) hP0 Ext.rf (by omega) hDk hkp hfx
      obtain ⟨t', n', rs', kp', D', ds', rfl, hP1⟩ := id hP
      refine pw_stk (st' := [.int (iZ _)]) rfl ?_
      refine pw_goto (tgt := 100) C dX1_perform_96 (by decide) ?_
      refine pw_wide 600 3900 (by (try dsimp only); omega) (by (try dsimp only); omega) ?_
      refine pw_iret C hr dX1_perform_100 ?_
      unfold cmdF; rw [hk]; simp only; rw [if_pos (show obLen X = 2 by omega)]
      exact hP
  by_cases h_11 : z_7 = 18
  · refine pw_tsIn (tgt := 101) (off := 60) C dX1_perform_41 (by omega) (by omega) (by omega) (by rw [h_11]; rfl) (by decide) ?_
    have hk : kIx (obCar X) = 18 := by rw [h_11] at hkx; split at hkx <;> omega
    refine pw_iload_n (i := 2) C dX1_perform_101 rfl rfl ?_
    refine pw_iconst C dX1_perform_102 ?_
    refine pw_icmp_ne (tgt := 121) C (by omega) (by omega) dX1_perform_103 (by decide) (fun h_12 => ?_) (fun h_12 => ?_)
    · refine pw_iconst C dX1_perform_121 ?_
      refine pw_wide 600 3900 (by (try dsimp only); omega) (by (try dsimp only); omega) ?_
      refine pw_iret C hr dX1_perform_122 ?_
      rw [show cmdF T fu nk X = cB T nk from by unfold cmdF; rw [hk]; simp only; rw [if_neg (by omega)]]
      exact CmP.two hSx hFx hDk hkp hIx hMx hCx (by omega) hfx
    · refine pw_aload_n (i := 0) C dX1_perform_106 rfl rfl (Or.inr ⟨_, rfl⟩) ?_
      refine pw_aload_n (i := 0) C dX1_perform_107 rfl rfl (Or.inr ⟨_, rfl⟩) ?_
      refine pw_iload_n (i := 3) C dX1_perform_108 rfl rfl ?_
      refine pw_callV (As := [.int (iZ z_1)]) (st := [.ref (A 20)]) C (m_X1_boundVariables g l hSx hCx (wd := wd) z_1v ⟨hwd.1, hwd.2.2⟩ (by omega)) my_X1_boundVariables ml_X1_67 (pw_rec.of C hCx cl_X1.1) rfl ⟨Nat.le_of_ble_eq_true rfl, Nat.le_of_ble_eq_true rfl⟩ ⟨by (try dsimp only); omega, by (try dsimp only); omega⟩ rfl (Nat.le_of_ble_eq_true rfl) dX1_perform_109 ?_
      rintro _ wb ⟨zb, tb, nb, rfl, hSb, hxb, hnb, hvb, hob⟩
      have hnb0 := hSb.n
      have hxb1 := hxb.1
      have hCb : wb 20 = (A 20, some (cmE A (-1) kp)) := (hob 20 (by omega)).trans hCx
      have v_13 := Vl.ext hx hxb
      have v_14 := Vl.ext z_1v hxb
      have v_15 := Vl.ext z_2v hxb
      have v_16 := Vl.ext z_7v hxb
      refine pw_stk (st' := [.int (iZ zb), .ref (A 20)]) rfl ?_
      refine pw_iload_n (i := 3) C dX1_perform_112 rfl rfl ?_
      refine pw_iload C dX1_perform_113 rfl ?_
      obtain ⟨RB, hRB, hzbi, hRe⟩ : ∃ RB : Cr, ((zb = -1 ∧ RB = (2, none, 0, 0, nk)) ∨ ∃ Vs, Vl tb nb zb Vs ∧ RB = evC T fu nk Vs (obCar (obCdr X)) (obCar (obCdr (obCdr X))) ∧ ∀ q, obEl q Vs = true → eHas (bEnv (obCar (obCdr X))) q = true) ∧ inI zb ∧ cmdF T fu nk X = (RB, T) := by
        have hce : cmdF T fu nk X = (match bVs (obCar (obCdr X)) with | none => cB T nk | some Vs => (evC T fu nk Vs (obCar (obCdr X)) (obCar (obCdr (obCdr X))), T)) := by unfold cmdF; rw [hk]; simp only; rw [if_pos (show obLen X = 3 by omega)]; rfl
        cases hb : bVs (obCar (obCdr X)) with
        | none => rw [hb] at hvb hce; exact ⟨_, Or.inl ⟨hvb, rfl⟩, by rw [show zb = -1 from hvb]; decide, hce⟩
        | some Vs => rw [hb] at hvb hce; exact ⟨_, Or.inr ⟨Vs, hvb, rfl, fun q hq => bVs_dom hb q hq⟩, by have := Vl.rng hSb hvb; omega, hce⟩
      refine pw_callV (As := [.int (iZ zb), .int (iZ z_1), .int (iZ z_2)]) (st := []) C (m_X1_evaluate g l hSb hCb (hFx.same (fun k h => hob k (by omega))) (hD.ext hxb) (hMx.same (fun k h => hob k (by omega))) (hIx.same (fun k h => hob k (by omega))) hT hfu (B := (obCar (obCdr X))) (R := RB) hzbi v_14 hsp v_15 (by omega) hRB) my_X1_evaluate ml_X1_63 (pw_rec.of C hCb cl_X1.1) rfl ⟨Nat.le_of_ble_eq_true rfl, Nat.le_of_ble_eq_true rfl⟩ ⟨by (try dsimp only); omega, by (try dsimp only); omega⟩ rfl (Nat.le_of_ble_eq_true rfl) dX1_perform_115 ?_
      rintro _ w_17 hP0
      have hP := CmQ.Px (mo' := fu + wd + 244) hP0 hxb (by omega) hDk hkp (fun k hk => (hob k (by omega)).trans (hfx k hk))
      obtain ⟨t', n', rs', kp', D', ds', rfl, hP1⟩ := id hP
      refine pw_stk (st' := [.int (iZ _)]) rfl ?_
      refine pw_goto (tgt := 122) C dX1_perform_118 (by decide) ?_
      refine pw_wide 600 3900 (by (try dsimp only); omega) (by (try dsimp only); omega) ?_
      refine pw_iret C hr dX1_perform_122 ?_
      rw [hRe]
      exact hP
  by_cases h_18 : z_7 = 19
  · refine pw_tsIn (tgt := 123) (off := 82) C dX1_perform_41 (by omega) (by omega) (by omega) (by rw [h_18]; rfl) (by decide) ?_
    have hk : kIx (obCar X) = 19 := by rw [h_18] at hkx; split at hkx <;> omega
    refine pw_iload_n (i := 2) C dX1_perform_123 rfl rfl ?_
    refine pw_iconst C dX1_perform_124 ?_
    refine pw_icmp_ne (tgt := 138) C (by omega) (by omega) dX1_perform_125 (by decide) (fun h_19 => ?_) (fun h_19 => ?_)
    · refine pw_iconst C dX1_perform_138 ?_
      refine pw_wide 600 3900 (by (try dsimp only); omega) (by (try dsimp only); omega) ?_
      refine pw_iret C hr dX1_perform_139 ?_
      rw [show cmdF T fu nk X = cB T nk from by unfold cmdF; rw [hk]; simp only; rw [if_neg (by omega)]]
      exact CmP.two hSx hFx hDk hkp hIx hMx hCx (by omega) hfx
    · refine pw_aload_n (i := 0) C dX1_perform_128 rfl rfl (Or.inr ⟨_, rfl⟩) ?_
      refine pw_iload_n (i := 3) C dX1_perform_129 rfl rfl ?_
      refine pw_iload C dX1_perform_130 rfl ?_
      refine pw_callV (As := [.int (iZ z_1), .int (iZ z_2)]) (st := []) C (m_X1_map g l hSx hCx hFx hD hMx hIx hT hfu (wd := wd) z_1v z_2v ⟨hwd.2.1, hwd.2.2⟩ (by omega)) my_X1_map ml_X1_70 (pw_rec.of C hCx cl_X1.1) rfl ⟨Nat.le_of_ble_eq_true rfl, Nat.le_of_ble_eq_true rfl⟩ ⟨by (try dsimp only); omega, by (try dsimp only); omega⟩ rfl (Nat.le_of_ble_eq_true rfl) dX1_perform_132 ?_
      rintro _ w_20 hP0
      have hP := CmQ.Px (mo' := fu + wd + 244) hP0 Ext.rf (by omega) hDk hkp hfx
      obtain ⟨t', n', rs', kp', D', ds', rfl, hP1⟩ := id hP
      refine pw_stk (st' := [.int (iZ _)]) rfl ?_
      refine pw_goto (tgt := 139) C dX1_perform_135 (by decide) ?_
      refine pw_wide 600 3900 (by (try dsimp only); omega) (by (try dsimp only); omega) ?_
      refine pw_iret C hr dX1_perform_139 ?_
      unfold cmdF; rw [hk]; simp only; rw [if_pos (show obLen X = 3 by omega)]
      exact hP
  by_cases h_21 : z_7 = 20
  · refine pw_tsIn (tgt := 140) (off := 99) C dX1_perform_41 (by omega) (by omega) (by omega) (by rw [h_21]; rfl) (by decide) ?_
    have hk : kIx (obCar X) = 20 := by rw [h_21] at hkx; split at hkx <;> omega
    refine pw_iload_n (i := 2) C dX1_perform_140 rfl rfl ?_
    refine pw_iconst C dX1_perform_141 ?_
    refine pw_icmp_ne (tgt := 163) C (by omega) (by omega) dX1_perform_142 (by decide) (fun h_22 => ?_) (fun h_22 => ?_)
    · refine pw_iconst C dX1_perform_163 ?_
      refine pw_wide 600 3900 (by (try dsimp only); omega) (by (try dsimp only); omega) ?_
      refine pw_iret C hr dX1_perform_164 ?_
      rw [show cmdF T fu nk X = cB T nk from by unfold cmdF; rw [hk]; simp only; rw [if_neg (by omega)]]
      exact CmP.two hSx hFx hDk hkp hIx hMx hCx (by omega) hfx
    · refine pw_aload_n (i := 0) C dX1_perform_145 rfl rfl (Or.inr ⟨_, rfl⟩) ?_
      refine pw_iload_n (i := 3) C dX1_perform_146 rfl rfl ?_
      refine pw_iload C dX1_perform_147 rfl ?_
      refine pw_aload_n (i := 0) C dX1_perform_149 rfl rfl (Or.inr ⟨_, rfl⟩) ?_
      refine pw_get (j := 0) C cl_X1 fl_X1_9 (by decide) rfl k_6 rfl dX1_perform_150 ?_
      refine pw_iload_n (i := 1) C dX1_perform_153 rfl rfl ?_
      refine pw_callV (As := [.int (iZ x)]) (st := [.int (iZ z_2), .int (iZ z_1), .ref (A 20)]) C (vr_fourth hSx hx) my_X6_fourth ml_X1_73 (hSx.rec C) rfl ⟨Nat.le_of_ble_eq_true rfl, Nat.le_of_ble_eq_true rfl⟩ ⟨by (try dsimp only); omega, by (try dsimp only); omega⟩ rfl (Nat.le_of_ble_eq_true rfl) dX1_perform_154 ?_
      rintro _ _ ⟨rfl, z_23, rfl, z_23v⟩
      have z_23r := Vl.rng hSx z_23v
      refine pw_stk (st' := [.int (iZ z_23), .int (iZ z_2), .int (iZ z_1), .ref (A 20)]) rfl ?_
      refine pw_callV (As := [.int (iZ z_1), .int (iZ z_2), .int (iZ z_23)]) (st := []) C (m_X1_define g l hSx hCx hFx hDk hkp hMx hIx z_1v z_2v z_23v) my_X1_define ml_X1_76 (pw_rec.of C hCx cl_X1.1) rfl ⟨Nat.le_of_ble_eq_true rfl, Nat.le_of_ble_eq_true rfl⟩ ⟨by (try dsimp only); omega, by (try dsimp only); omega⟩ rfl (Nat.le_of_ble_eq_true rfl) dX1_perform_157 ?_
      rintro _ w_24 hP0
      have hP := CmP.fr (mo' := fu + wd + 244) hP0 (by omega) hfx
      obtain ⟨t', n', rs', kp', D', ds', rfl, hP1⟩ := id hP
      refine pw_stk (st' := [.int (iZ _)]) rfl ?_
      refine pw_goto (tgt := 164) C dX1_perform_160 (by decide) ?_
      refine pw_wide 600 3900 (by (try dsimp only); omega) (by (try dsimp only); omega) ?_
      refine pw_iret C hr dX1_perform_164 ?_
      unfold cmdF; rw [hk]; simp only; rw [if_pos (show obLen X = 4 by omega)]
      exact hP
  by_cases h_25 : z_7 = 21
  · refine pw_tsIn (tgt := 165) (off := 124) C dX1_perform_41 (by omega) (by omega) (by omega) (by rw [h_25]; rfl) (by decide) ?_
    have hk : kIx (obCar X) = 21 := by rw [h_25] at hkx; split at hkx <;> omega
    refine pw_iload_n (i := 2) C dX1_perform_165 rfl rfl ?_
    refine pw_iconst C dX1_perform_166 ?_
    refine pw_icmp_ne (tgt := 188) C (by omega) (by omega) dX1_perform_167 (by decide) (fun h_26 => ?_) (fun h_26 => ?_)
    · refine pw_iconst C dX1_perform_188 ?_
      refine pw_wide 600 3900 (by (try dsimp only); omega) (by (try dsimp only); omega) ?_
      refine pw_iret C hr dX1_perform_189 ?_
      rw [show cmdF T fu nk X = cB T nk from by unfold cmdF; rw [hk]; simp only; rw [if_neg (by omega)]]
      exact CmP.two hSx hFx hDk hkp hIx hMx hCx (by omega) hfx
    · refine pw_aload_n (i := 0) C dX1_perform_170 rfl rfl (Or.inr ⟨_, rfl⟩) ?_
      refine pw_iload_n (i := 3) C dX1_perform_171 rfl rfl ?_
      refine pw_iload C dX1_perform_172 rfl ?_
      refine pw_aload_n (i := 0) C dX1_perform_174 rfl rfl (Or.inr ⟨_, rfl⟩) ?_
      refine pw_get (j := 0) C cl_X1 fl_X1_9 (by decide) rfl k_6 rfl dX1_perform_175 ?_
      refine pw_iload_n (i := 1) C dX1_perform_178 rfl rfl ?_
      refine pw_callV (As := [.int (iZ x)]) (st := [.int (iZ z_2), .int (iZ z_1), .ref (A 20)]) C (vr_fourth hSx hx) my_X6_fourth ml_X1_73 (hSx.rec C) rfl ⟨Nat.le_of_ble_eq_true rfl, Nat.le_of_ble_eq_true rfl⟩ ⟨by (try dsimp only); omega, by (try dsimp only); omega⟩ rfl (Nat.le_of_ble_eq_true rfl) dX1_perform_179 ?_
      rintro _ _ ⟨rfl, z_27, rfl, z_27v⟩
      have z_27r := Vl.rng hSx z_27v
      refine pw_stk (st' := [.int (iZ z_27), .int (iZ z_2), .int (iZ z_1), .ref (A 20)]) rfl ?_
      refine pw_callV (As := [.int (iZ z_1), .int (iZ z_2), .int (iZ z_27)]) (st := []) C (m_X1_defineAnew g l hSx hCx hFx hDk hkp hMx hIx z_1v z_2v z_27v) my_X1_defineAnew ml_X1_79 (pw_rec.of C hCx cl_X1.1) rfl ⟨Nat.le_of_ble_eq_true rfl, Nat.le_of_ble_eq_true rfl⟩ ⟨by (try dsimp only); omega, by (try dsimp only); omega⟩ rfl (Nat.le_of_ble_eq_true rfl) dX1_perform_182 ?_
      rintro _ w_28 hP0
      have hP := CmP.fr (mo' := fu + wd + 244) hP0 (by omega) hfx
      obtain ⟨t', n', rs', kp', D', ds', rfl, hP1⟩ := id hP
      refine pw_stk (st' := [.int (iZ _)]) rfl ?_
      refine pw_goto (tgt := 189) C dX1_perform_185 (by decide) ?_
      refine pw_wide 600 3900 (by (try dsimp only); omega) (by (try dsimp only); omega) ?_
      refine pw_iret C hr dX1_perform_189 ?_
      unfold cmdF; rw [hk]; simp only; rw [if_pos (show obLen X = 4 by omega)]
      exact hP
  by_cases h_29 : z_7 = 22
  · refine pw_tsIn (tgt := 190) (off := 149) C dX1_perform_41 (by omega) (by omega) (by omega) (by rw [h_29]; rfl) (by decide) ?_
    have hk : kIx (obCar X) = 22 := by rw [h_29] at hkx; split at hkx <;> omega
    refine pw_iload_n (i := 2) C dX1_perform_190 rfl rfl ?_
    refine pw_iconst C dX1_perform_191 ?_
    refine pw_icmp_ne (tgt := 202) C (by omega) (by omega) dX1_perform_192 (by decide) (fun h_30 => ?_) (fun h_30 => ?_)
    · refine pw_iconst C dX1_perform_202 ?_
      refine pw_wide 600 3900 (by (try dsimp only); omega) (by (try dsimp only); omega) ?_
      refine pw_iret C hr dX1_perform_203 ?_
      rw [show cmdF T fu nk X = cB T nk from by unfold cmdF; rw [hk]; simp only; rw [if_neg (by omega)]]
      exact CmP.two hSx hFx hDk hkp hIx hMx hCx (by omega) hfx
    · refine pw_aload_n (i := 0) C dX1_perform_195 rfl rfl (Or.inr ⟨_, rfl⟩) ?_
      refine pw_callV (As := []) (st := []) C (m_X1_undo g l hSx hCx hFx hDk hkp hMx hIx hT hTs) my_X1_undo ml_X1_82 (pw_rec.of C hCx cl_X1.1) rfl ⟨Nat.le_of_ble_eq_true rfl, Nat.le_of_ble_eq_true rfl⟩ ⟨by (try dsimp only); omega, by (try dsimp only); omega⟩ rfl (Nat.le_of_ble_eq_true rfl) dX1_perform_196 ?_
      rintro _ w_31 hP0
      have hP := CmP.fr (mo' := fu + wd + 244) hP0 (by omega) hfx
      obtain ⟨t', n', rs', kp', D', ds', rfl, hP1⟩ := id hP
      refine pw_stk (st' := [.int (iZ _)]) rfl ?_
      refine pw_goto (tgt := 203) C dX1_perform_199 (by decide) ?_
      refine pw_wide 600 3900 (by (try dsimp only); omega) (by (try dsimp only); omega) ?_
      refine pw_iret C hr dX1_perform_203 ?_
      unfold cmdF; rw [hk]; simp only; rw [if_pos (show obLen X = 1 by omega)]
      exact hP
  by_cases h_32 : z_7 = 23
  · refine pw_tsIn (tgt := 204) (off := 163) C dX1_perform_41 (by omega) (by omega) (by omega) (by rw [h_32]; rfl) (by decide) ?_
    have hk : kIx (obCar X) = 23 := by rw [h_32] at hkx; split at hkx <;> omega
    refine pw_iload_n (i := 2) C dX1_perform_204 rfl rfl ?_
    refine pw_iconst C dX1_perform_205 ?_
    refine pw_icmp_ne (tgt := 217) C (by omega) (by omega) dX1_perform_206 (by decide) (fun h_33 => ?_) (fun h_33 => ?_)
    · refine pw_iconst C dX1_perform_217 ?_
      refine pw_wide 600 3900 (by (try dsimp only); omega) (by (try dsimp only); omega) ?_
      refine pw_iret C hr dX1_perform_218 ?_
      rw [show cmdF T fu nk X = cB T nk from by unfold cmdF; rw [hk]; simp only; rw [if_neg (by omega)]]
      exact CmP.two hSx hFx hDk hkp hIx hMx hCx (by omega) hfx
    · refine pw_aload_n (i := 0) C dX1_perform_209 rfl rfl (Or.inr ⟨_, rfl⟩) ?_
      refine pw_iload_n (i := 3) C dX1_perform_210 rfl rfl ?_
      refine pw_callV (As := [.int (iZ z_1)]) (st := []) C (m_X1_show g l hSx hCx hFx hDk hkp hMx hIx hT hTs z_1v (by omega)) my_X1_show ml_X1_86 (pw_rec.of C hCx cl_X1.1) rfl ⟨Nat.le_of_ble_eq_true rfl, Nat.le_of_ble_eq_true rfl⟩ ⟨by (try dsimp only); omega, by (try dsimp only); omega⟩ rfl (Nat.le_of_ble_eq_true rfl) dX1_perform_211 ?_
      rintro _ w_34 hP0
      have hP := CmP.fr (mo' := fu + wd + 244) hP0 (by omega) hfx
      obtain ⟨t', n', rs', kp', D', ds', rfl, hP1⟩ := id hP
      refine pw_stk (st' := [.int (iZ _)]) rfl ?_
      refine pw_goto (tgt := 218) C dX1_perform_214 (by decide) ?_
      refine pw_wide 600 3900 (by (try dsimp only); omega) (by (try dsimp only); omega) ?_
      refine pw_iret C hr dX1_perform_218 ?_
      unfold cmdF; rw [hk]; simp only; rw [if_pos (show obLen X = 2 by omega)]
      exact hP
  refine pw_tsOut (tgt := 219) C dX1_perform_41 (by omega) (by omega) (by decide) ?_
  refine pw_iconst C dX1_perform_219 ?_
  refine pw_wide 600 3900 (by (try dsimp only); omega) (by (try dsimp only); omega) ?_
  refine pw_iret C hr dX1_perform_220 ?_
  rw [cmdF_no (by split at hkx <;> omega)]
  exact CmP.two hSx hFx hDk hkp hIx hMx hCx (by omega) hfx

