/-! THE REFERENCE'S COMMANDS: the arrays whose contents do not matter between them -/
def gBt (g : pw_P) (w : pw_W) (B : Nat → Nat) : Prop := ∃ g1 g2 g3 fk : Int → Int, BtA g w B g1 g2 g3 fk
theorem gBt.same {g : pw_P} {w w' : pw_W} {B : Nat → Nat} (h : gBt g w B) (hf : ∀ k, (k = 1043 ∨ k = 1044 ∨ k = 1045 ∨ k = 1047) → w' k = w k) : gBt g w' B := by
  obtain ⟨g1, g2, g3, fk, h⟩ := h
  exact ⟨g1, g2, g3, fk, h.same hf⟩
def gEv (g : pw_P) (w : pw_W) (B : Nat → Nat) : Prop := ∃ g1 g2 g3 g4 g5 g6 fv : Int → Int, EvA g w B g1 g2 g3 g4 g5 g6 fv
theorem gEv.same {g : pw_P} {w w' : pw_W} {B : Nat → Nat} (h : gEv g w B) (hf : ∀ k, (1056 ≤ k ∧ k ≤ 1063 ∧ k ≠ 1062) → w' k = w k) : gEv g w' B := by
  obtain ⟨g1, g2, g3, g4, g5, g6, fv, h⟩ := h
  exact ⟨g1, g2, g3, g4, g5, g6, fv, h.same hf⟩
def gTp (g : pw_P) (w : pw_W) (B : Nat → Nat) : Prop := ∃ f1 f2 : Int → Int, w 1053 = (B 52, some (AI g 1000 f1)) ∧ w 1054 = (B 53, some (AI g 1000 f2)) ∧ (∀ j, inI (f1 j)) ∧ ∀ j, inI (f2 j)
theorem gTp.same {g : pw_P} {w w' : pw_W} {B : Nat → Nat} (h : gTp g w B) (hf : ∀ k, (k = 1053 ∨ k = 1054) → w' k = w k) : gTp g w' B := by
  obtain ⟨f1, f2, h1, h2, h3⟩ := h
  exact ⟨f1, f2, (hf _ (by omega)).trans h1, (hf _ (by omega)).trans h2, h3⟩
theorem gTp.bd {g : pw_P} {w : pw_W} {B : Nat → Nat} (t : Int → Ob) (n : Int) (h : gTp g w B) : BdM g w B t n [] := by
  obtain ⟨f1, f2, h1, h2, h3, h4⟩ := h
  exact ⟨f1, f2, h1, h2, h3, h4, trivial, trivial, Nat.zero_le _⟩
theorem BdM.tp {g : pw_P} {w : pw_W} {B : Nat → Nat} {t : Int → Ob} {n : Int} {be : Bds} (h : BdM g w B t n be) : gTp g w B := by
  obtain ⟨f1, f2, h1, h2, h3, h4, -⟩ := h
  exact ⟨f1, f2, h1, h2, h3, h4⟩
def gWk (g : pw_P) (w : pw_W) (B : Nat → Nat) : Prop := ∃ f : Int → Int, w 1049 = (B 48, some (AI g 400 f)) ∧ ∀ j, inI (f j)
theorem gWk.same {g : pw_P} {w w' : pw_W} {B : Nat → Nat} (h : gWk g w B) (hf : ∀ k, k = 1049 → w' k = w k) : gWk g w' B := by
  obtain ⟨f, h1, h2⟩ := h
  exact ⟨f, (hf _ rfl).trans h1, h2⟩
def gIt (g : pw_P) (w : pw_W) (B : Nat → Nat) : Prop := ∃ f : Int → Int, w 1051 = (B 50, some (AI g 130 f)) ∧ ∀ j, inI (f j)
theorem gIt.same {g : pw_P} {w w' : pw_W} {B : Nat → Nat} (h : gIt g w B) (hf : ∀ k, k = 1051 → w' k = w k) : gIt g w' B := by
  obtain ⟨f, h1, h2⟩ := h
  exact ⟨f, (hf _ rfl).trans h1, h2⟩
def gTl (g : pw_P) (w : pw_W) (B : Nat → Nat) : Prop := ∃ f : Int → Int, w 1019 = (B 18, some (AI g 4000 f)) ∧ ∀ j, inI (f j)
theorem gTl.same {g : pw_P} {w w' : pw_W} {B : Nat → Nat} (h : gTl g w B) (hf : ∀ k, k = 1019 → w' k = w k) : gTl g w' B := by
  obtain ⟨f, h1, h2⟩ := h
  exact ⟨f, (hf _ rfl).trans h1, h2⟩
def gMp (g : pw_P) (w : pw_W) (B : Nat → Nat) : Prop := ∃ f : Int → Int, w 1069 = (B 68, some (AI g 1000 f)) ∧ ∀ j, inI (f j)
theorem gMp.same {g : pw_P} {w w' : pw_W} {B : Nat → Nat} (h : gMp g w B) (hf : ∀ k, k = 1069 → w' k = w k) : gMp g w' B := by
  obtain ⟨f, h1, h2⟩ := h
  exact ⟨f, (hf _ rfl).trans h1, h2⟩
def Loo (g : pw_P) (w : pw_W) (B : Nat → Nat) : Prop := gBt g w B ∧ gWk g w B ∧ gIt g w B ∧ gEv g w B ∧ gTp g w B ∧ gTl g w B ∧ gMp g w B
/-- the reference as a command finds and leaves it: functions T, told L, fuel, steps, fault, taken -/
def CmW (g : pw_P) (w : pw_W) (b : Nat) (B : Nat → Nat) (x : Nat → Int) (t : Int → Ob) (n : Int) (sN : Nat) (fZ : Int → Int) (T : List Dn) (L : List Int) (fu : Nat) (st wk tk : Int) : Prop :=
  w 1000 = (b, some (mdE B x)) ∧ RS g w B t n sN fZ ∧ RK t n ∧ MdD g w B t n T ∧ Loo g w B ∧ MOut g w B (x 15) L ∧ x 7 = n ∧ x 10 = ((sN : Nat) : Int) ∧ x 32 = ((T.length : Nat) : Int) ∧ x 37 = -1 ∧ x 39 = ((fu : Nat) : Int) ∧ x 40 = st ∧ x 41 = wk ∧ x 45 = 0 ∧ x 47 = 0 ∧ x 69 = tk ∧ 0 ≤ x 38
def K3 (x' x : Nat → Int) : Prop := x' 13 = x 13 ∧ x' 21 = x 21 ∧ x' 22 = x 22
abbrev cmF (w w' : pw_W) : Prop := ∀ k, (k < 1000 ∨ (1010 < k ∧ k < 1015) ∨ (1015 < k ∧ k < 1019) ∨ (1019 < k ∧ k < 1043) ∨ 1069 < k) → w' k = w k
/-- a command has been done: functions, told, answer, steps, fault, at most so many new objects -/
def rCo (g : pw_P) (w w' : pw_W) (b : Nat) (B : Nat → Nat) (x : Nat → Int) (t : Int → Ob) (n : Int) (sN fu : Nat) (T : List Dn) (L : List Int) (an st wk cost : Int) (r : Option Value) : Prop :=
  ∃ (x' : Nat → Int) (t' : Int → Ob) (n' : Int) (s' : Nat) (fZ' : Int → Int), r = some (.int (iZ an)) ∧ CmW g w' b B x' t' n' s' fZ' T L fu st wk 0 ∧ Ext t n t' n' ∧ n' ≤ n + cost ∧ s' ≤ sN ∧ K3 x' x ∧ cmF w w'
theorem rCo.tr {g : pw_P} {w w1 w' : pw_W} {b : Nat} {B : Nat → Nat} {x x1 : Nat → Int} {t t1 : Int → Ob} {n n1 : Int} {sN s1 fu : Nat} {T : List Dn} {L : List Int} {an st wk c1 c2 cost : Int} {r : Option Value} (he : Ext t n t1 n1) (hn : n1 ≤ n + c1) (hs : s1 ≤ sN) (hk : K3 x1 x) (hf : cmF w w1) (h : rCo g w1 w' b B x1 t1 n1 s1 fu T L an st wk c2 r) (hc : c1 + c2 ≤ cost) : rCo g w w' b B x t n sN fu T L an st wk cost r := by
  obtain ⟨x', t', n', s', fZ', h1, h2, h3, h4, h5, h6, h7⟩ := h
  exact ⟨x', t', n', s', fZ', h1, h2, he.tr h3, by omega, by omega, ⟨h6.1.trans hk.1, h6.2.1.trans hk.2.1, h6.2.2.trans hk.2.2⟩, fun k hk => (h7 k hk).trans (hf k hk)⟩
def rCc (g : pw_P) (w w' : pw_W) (b : Nat) (B : Nat → Nat) (x : Nat → Int) (t : Int → Ob) (n : Int) (sN fu : Nat) (T : List Dn) (R : Cr) (cost : Int) (r : Option Value) : Prop := rCo g w w' b B x t n sN fu T (ouF R) ((R.1 : Nat) : Int) ((R.2.2.1 : Nat) : Int) ((R.2.2.2.1 : Nat) : Int) cost r
theorem rCc.of {g : pw_P} {w w' : pw_W} {b : Nat} {B : Nat → Nat} {x : Nat → Int} {t : Int → Ob} {n : Int} {sN fu : Nat} {T : List Dn} {R R0 : Cr} {cost : Int} {r : Option Value} (e : R = R0) (h : rCc g w w' b B x t n sN fu T R0 cost r) : rCc g w w' b B x t n sN fu T R cost r := e ▸ h
theorem evC_no {T : List Dn} {fu nk : Nat} {Vs Bn X : Ob} (h : isTm T (fun q => obEl q Vs) X = false) : evC T fu nk Vs Bn X = (2, none, 0, 0, nk) := by unfold evC; rw [if_neg (by rw [h]; decide)]
/-- a term that was told: the class's and the reference's -/
theorem rCc.ev {g : pw_P} {w w' : pw_W} {b : Nat} {B : Nat → Nat} {x : Nat → Int} {t : Int → Ob} {n : Int} {sN fu nk : Nat} {T T' : List Dn} {Vs Bn X : Ob} {R' : Nat × Ob × Nat × Nat} {cost : Int} {r : Option Value} (h : isTm T (fun q => obEl q Vs) X = true) (hR : rnE (mRun T fu 30000 0 X (bEnv Bn) [] 0 nk) R') (hh : rCo g w w' b B x t n sN fu T' (if R'.1 = 0 then (otx R'.2.1).1 else []) (if R'.1 = 0 then 0 else 4) ((R'.2.2.1 : Nat) : Int) ((R'.1 : Nat) : Int) cost r) : rCc g w w' b B x t n sN fu T' (evC T fu nk Vs Bn X) cost r := by
  obtain ⟨h1, h2, h3⟩ := hR
  unfold evC
  rw [if_pos h]
  by_cases c : (mRun T fu 30000 0 X (bEnv Bn) [] 0 nk).1 = 0
  · rw [if_pos c]
    rw [h1, c, if_pos rfl, if_pos rfl, h2, h3 c] at hh
    exact hh
  · rw [if_neg c]
    rw [h1, if_neg c, if_neg c, h2] at hh
    exact hh
theorem isTm_pl {T : List Dn} {vs : Ob → Bool} {X : Ob} (h : isTm T vs X = true) : (wf2 T vs (pl2 X).1).1 = true ∧ (sz2 (pl2 X).1).1 ≤ 120 := by
  have hw := isTm_wf h
  refine ⟨(pl2_wf T vs X).1 hw, ?_⟩
  have hw1 := (wf2_mono (T := T) (vs := vs) (vs' := va1) (fun _ _ => rfl) X).1 hw
  rw [(pl2_sz T X).1 hw1]
  unfold isTm at h
  rw [Bool.and_eq_true] at h
  exact of_decide_eq_true h.2
set_option maxRecDepth 100000 in
set_option maxHeartbeats 4000000 in
/-- toldValue -/
theorem m_X10_toldValue (g : pw_P) (l : Launch) {w : pw_W} {b : Nat} {B : Nat → Nat} {x : Nat → Int} {t : Int → Ob} {n : Int} {sN : Nat} {fZ : Int → Int} {T : List Dn} {fu : Nat} (hC : CmW g w b B x t n sN fZ T [] fu 0 0 0) {o : Int} {X : Ob} (ho : Vl t n o X) {be : Bds} (hBd : BdM g w B t n be) (hfu : fu ≤ 1000) (hTo : TOk T) (hTn : TNs T) (hwf : (wf2 T (eHas be) X).1 = true) (hcap : n + ((fu : Nat) : Int) ≤ 40000) {nk : Nat} {R : Nat × Ob × Nat × Nat} (hrun : mRun T fu 30000 0 X be [] 0 nk = R) : pw_M g l yX10_toldValue cX10_toldValue 3 (some .int) { frames := 6, cells := 0, slots := 0, locals := 133 } [.ref b, .int (iZ o)] w (fun r w' => rCo g w w' b B x t n sN fu T (if R.1 = 0 then (otx R.2.1).1 else []) (if R.1 = 0 then 0 else 4) ((R.2.2.1 : Nat) : Int) ((R.1 : Nat) : Int) ((fu : Nat) : Int) r) := by
  refine pw_M.of (by decide) (Nat.le_of_ble_eq_true rfl) rfl ?_
  intro p e s m args below meth c C hr hn
  obtain ⟨h0, hR, hK, hD, ⟨hBt, hWk, hIt, hEv, hTp, hTl, hMp⟩, hO, h7, h10, h32, h37, h39, h40, h41, h45, h47, h69, h38⟩ := id hC
  have hRn := hR.n
  have hor := Vl.rg hR ho
  have h9 : R.1 ≠ 9 := by rw [← hrun]; exact mRun_ends hTo _ _ _ _ _ _ _ (Or.inl ⟨rfl, hwf, trivial⟩) (by simp only [frsPh]; omega)
  refine pw_aload_n (i := 0) C dX10_toldValue_0 rfl rfl (Or.inr ⟨_, rfl⟩) ?_
  refine pw_iload_n (i := 1) C dX10_toldValue_1 rfl rfl ?_
  refine pw_iconst C dX10_toldValue_2 ?_
  obtain ⟨q_1a, q_1b, q_1c, q_1d, q_1e, q_1f, q_1g, q_1h⟩ := hEv
  refine pw_callV (As := [.int (iZ o), .int (iZ 0)]) (st := []) C (m_X10_evaluated g l h0 hR h7 h10 hK hD h32 ho hBd q_1h h39 h37 h40 hfu (Nat.zero_le _) hTo hTn (by omega) hwf (m0 := 29999) hrun h9) my_X10_evaluated ml_X10_423 (pw_rec.of C h0 cl_X10.1) rfl ⟨Nat.le_of_ble_eq_true rfl, Nat.le_of_ble_eq_true rfl⟩ ⟨by (try dsimp only); omega, by (try dsimp only); omega⟩ rfl (Nat.le_of_ble_eq_true rfl) dX10_toldValue_3 ?_
  rintro _ w_13 ⟨z_2, t_3, n_4, sN_5, Z_6, p_18, p_19, p_20, p_21, p_22, p_23, p_24, y_25, y_26, y_27, y_28, y_29, y_30, rfl, e_7, R_8, x_9, hn_10, hs_11, A_14, hv_15, hk_16, hnb_17, o_12⟩
  have x_91 := x_9.1
  have R_8n := R_8.n
  have v_31 := Vl.ext ho x_9
  have K_32 := RK.ext hK x_9
  have G_33 : gEv g w_13 B := ⟨p_18, p_19, p_20, p_21, p_22, p_23, p_24, A_14⟩
  have z_2r : -1 ≤ z_2 ∧ z_2 < 40000 := by
    rcases hv_15 with ⟨_, q, _⟩ | ⟨_, q, _⟩
    · have := Vl.rg R_8 q; omega
    · omega
  refine pw_stk (st' := [.int (iZ z_2)]) rfl ?_
  refine pw_istore_n (i := 2) (lv' := [(0, .ref b), (1, .int (iZ o)), (2, .int (iZ z_2))]) C dX10_toldValue_6 rfl (by decide) rfl ?_
  refine pw_iload_n (i := 2) C dX10_toldValue_7 rfl rfl ?_
  refine pw_iconst C dX10_toldValue_8 ?_
  refine pw_icmp_ne (tgt := 22) C (by omega) (by omega) dX10_toldValue_9 (by decide) (fun h_34 => ?_) (fun h_34 => ?_)
  · obtain ⟨heq, hzv, -⟩ := hv_15.resolve_right (fun q => by omega)
    have z_2r := Vl.rg R_8 hzv
    refine pw_aload_n (i := 0) C dX10_toldValue_22 rfl rfl (Or.inr ⟨_, rfl⟩) ?_
    refine pw_iload_n (i := 2) C dX10_toldValue_23 rfl rfl ?_
    have G_35 := hTl.same (w' := w_13) (fun k hk => (o_12 k (by omega)))
    obtain ⟨q_36, q_361, q_362⟩ := G_35
    refine pw_callV (As := [.int (iZ z_2)]) (st := []) C (m_X10_tellOut g l e_7 R_8 rfl rfl K_32 hzv (hO.same ((o_12 1015 (by omega)))) q_361 q_362) my_X10_tellOut ml_X10_427 (pw_rec.of C e_7 cl_X10.1) rfl ⟨Nat.le_of_ble_eq_true rfl, Nat.le_of_ble_eq_true rfl⟩ ⟨by (try dsimp only); omega, by (try dsimp only); omega⟩ rfl (Nat.le_of_ble_eq_true rfl) dX10_toldValue_24 ?_
    rintro _ w_45 ⟨rfl, ⟨v_37, k_38, fk_39, e_40, O_41, e_42, g_43⟩, o_44⟩
    have G_46 : gTl g w_45 B := ⟨fk_39, e_42, g_43⟩
    refine pw_stk (st' := []) rfl ?_
    refine pw_iconst C dX10_toldValue_27 ?_
    rw [if_pos heq, if_pos heq]
    have R_47 := R_8.same (w' := w_45) (fun k hk => (o_44 k (by omega)))
    have D_48 := hD.same (w' := w_45) (fun k hk => (o_44 k (by omega)).trans (o_12 k (by omega))) x_9
    have G_49 := hBt.same (w' := w_45) (fun k hk => (o_44 k (by omega)).trans (o_12 k (by omega)))
    have G_50 := hWk.same (w' := w_45) (fun k hk => (o_44 k (by omega)).trans (o_12 k (by omega)))
    have G_51 := hIt.same (w' := w_45) (fun k hk => (o_44 k (by omega)).trans (o_12 k (by omega)))
    have G_52 := G_33.same (w' := w_45) (fun k hk => (o_44 k (by omega)))
    have G_53 := hTp.same (w' := w_45) (fun k hk => (o_44 k (by omega)).trans (o_12 k (by omega)))
    have G_54 := hMp.same (w' := w_45) (fun k hk => (o_44 k (by omega)).trans (o_12 k (by omega)))
    exact pw_iret C hr dX10_toldValue_28 ⟨(va_up (va_up (evX x n_4 ((sN_5 : Nat) : Int) ((R.2.2.1 : Nat) : Int) y_25 y_26 y_27 y_28 y_29 y_30) 15 v_37) 19 k_38), t_3, n_4, sN_5, Z_6, rfl, ⟨e_40, R_47, K_32, D_48, ⟨G_49, G_50, G_51, G_52, G_53, G_46, G_54⟩, O_41, rfl, rfl, h32, h37, h39, rfl, (by rw [heq]; exact h41), h45, h47, h69, h38⟩, x_9, by omega, by omega, ⟨rfl, rfl, rfl⟩, fun k hk => (o_44 k (by omega)).trans (o_12 k (by omega))⟩
  · obtain ⟨hne, -, hwy⟩ : R.1 ≠ 0 ∧ z_2 = -1 ∧ y_28 = ((R.1 : Nat) : Int) := hv_15.resolve_left (fun q => by have := Vl.rg R_8 q.2.1; omega)
    refine pw_aload_n (i := 0) C dX10_toldValue_12 rfl rfl (Or.inr ⟨_, rfl⟩) ?_
    refine pw_aload_n (i := 0) C dX10_toldValue_13 rfl rfl (Or.inr ⟨_, rfl⟩) ?_
    refine pw_get (j := 65) C cl_X10 fl_X10_374 (by decide) rfl e_7 rfl dX10_toldValue_14 ?_
    refine pw_stk (st' := [.int (iZ y_28), .ref b]) rfl ?_
    refine pw_put (j := 41) C cl_X10 fl_X10_301 (by decide) rfl rfl rfl rfl rfl e_7 (Nat.le_of_ble_eq_true rfl) dX10_toldValue_17 (fun w_57 k_55 o_56 => ?_)
    have k_58 : w_57 1000 = (b, some (mdE B (va_up (evX x n_4 ((sN_5 : Nat) : Int) ((R.2.2.1 : Nat) : Int) y_25 y_26 y_27 y_28 y_29 y_30) 41 y_28))) := k_55
    refine pw_iconst C dX10_toldValue_20 ?_
    rw [if_neg hne, if_neg hne]
    have R_59 := R_8.same (w' := w_57) (fun k hk => (o_56 k (by omega)))
    have D_60 := hD.same (w' := w_57) (fun k hk => (o_56 k (by omega)).trans (o_12 k (by omega))) x_9
    have G_61 := hBt.same (w' := w_57) (fun k hk => (o_56 k (by omega)).trans (o_12 k (by omega)))
    have G_62 := hWk.same (w' := w_57) (fun k hk => (o_56 k (by omega)).trans (o_12 k (by omega)))
    have G_63 := hIt.same (w' := w_57) (fun k hk => (o_56 k (by omega)).trans (o_12 k (by omega)))
    have G_64 := G_33.same (w' := w_57) (fun k hk => (o_56 k (by omega)))
    have G_65 := hTp.same (w' := w_57) (fun k hk => (o_56 k (by omega)).trans (o_12 k (by omega)))
    have G_66 := hTl.same (w' := w_57) (fun k hk => (o_56 k (by omega)).trans (o_12 k (by omega)))
    have G_67 := hMp.same (w' := w_57) (fun k hk => (o_56 k (by omega)).trans (o_12 k (by omega)))
    exact pw_iret C hr dX10_toldValue_21 ⟨(va_up (evX x n_4 ((sN_5 : Nat) : Int) ((R.2.2.1 : Nat) : Int) y_25 y_26 y_27 y_28 y_29 y_30) 41 y_28), t_3, n_4, sN_5, Z_6, rfl, ⟨k_58, R_59, K_32, D_60, ⟨G_61, G_62, G_63, G_64, G_65, G_66, G_67⟩, (hO.same ((o_56 1015 (by omega)).trans (o_12 1015 (by omega)))), rfl, rfl, h32, h37, h39, rfl, hwy, h45, h47, h69, h38⟩, x_9, by omega, by omega, ⟨rfl, rfl, rfl⟩, fun k hk => (o_56 k (by omega)).trans (o_12 k (by omega))⟩

theorem ev_wf {T : List Dn} {Vs B0 X : Ob} (h : isTm T (fun q => obEl q Vs) X = true) (hv : ∀ q, obEl q Vs = true → eHas (bEnv B0) q = true) : (wf2 T (eHas (bEnv B0)) X).1 = true ∧ (wf2 (plT T) (eHas (bEnv B0)) (pl2 X).1).1 = true := by
  have h1 := (wf2_mono (T := T) (vs := fun q => obEl q Vs) (vs' := eHas (bEnv B0)) hv X).1 (isTm_wf h)
  refine ⟨h1, ?_⟩
  rw [wf2_plT]
  exact (pl2_wf T _ X).1 h1
theorem ln_p {X : Ob} {k : Nat} (h : obLen X = ((k : Nat) : Int)) : ∀ j, j < k → obP (cdN j X) = true := fun j hj => (lsO_cdN j X (by have := lsO_len (R0 := X) (by omega); omega)).1
set_option maxRecDepth 100000 in
set_option maxHeartbeats 4000000 in
/-- eval -/
theorem m_X10_eval (g : pw_P) (l : Launch) {w : pw_W} {b : Nat} {B : Nat → Nat} {x : Nat → Int} {t : Int → Ob} {n : Int} {sN : Nat} {fZ : Int → Int} {T : List Dn} {fu : Nat} (hC : CmW g w b B x t n sN fZ (plT T) [] fu 0 0 0) {o : Int} {X : Ob} (ho : Vl t n o X) (hfu : fu ≤ 1000) (hTo0 : TOk T) (hTn0 : TNs T) (hnd : (nd2 X).1 ≤ 1000) {nk : Nat} (hcap : n + 4020 ≤ 40000) : pw_M g l yX10_eval cX10_eval 3 (some .int) { frames := 7, cells := 0, slots := 0, locals := 159 } [.ref b, .int (iZ o)] w (fun r w' => rCc g w w' b B x t n sN fu (plT T) (if obLen X = 2 then evC T fu nk oNil oNil (obCar (obCdr X)) else (2, none, 0, 0, nk)) 4010 r) := by
  refine pw_M.of (by decide) (Nat.le_of_ble_eq_true rfl) rfl ?_
  intro p e s m args below meth c C hr hn
  obtain ⟨h0, hR, hK, hD, ⟨hBt, hWk, hIt, hEv, hTp, hTl, hMp⟩, hO, h7, h10, h32, h37, h39, h40, h41, h45, h47, h69, h38⟩ := id hC
  have hRn := hR.n
  have hor := Vl.rg hR ho
  have hTo := hTo0.pl
  have hTn := hTn0.pl
  have hDl : ∀ d ∈ plT T, 0 ≤ obLen d.2.1 := fun d hd => (hTo d hd).2.1
  have hT6 : ∀ d ∈ plT T, obLen d.2.1 ≤ 6 := fun d hd => (hTo d hd).2.2.1
  refine pw_aload_n (i := 0) C dX10_eval_0 rfl rfl (Or.inr ⟨_, rfl⟩) ?_
  refine pw_iload_n (i := 1) C dX10_eval_1 rfl rfl ?_
  refine pw_callV (As := [.int (iZ o)]) (st := []) C (m_X10_lengthOf g l h0 hR h7 h10 hK ho) my_X10_lengthOf ml_X10_325 (pw_rec.of C h0 cl_X10.1) rfl ⟨Nat.le_of_ble_eq_true rfl, Nat.le_of_ble_eq_true rfl⟩ ⟨by (try dsimp only); omega, by (try dsimp only); omega⟩ rfl (Nat.le_of_ble_eq_true rfl) dX10_eval_2 ?_
  rintro _ _ ⟨rfl, rfl⟩
  refine pw_stk (st' := [.int (iZ (obLen X))]) rfl ?_
  have g_1 := obLen_rg hR ho
  refine pw_iconst C dX10_eval_5 ?_
  refine pw_icmp_ne (tgt := 22) C (by omega) (by omega) dX10_eval_6 (by decide) (fun h_2 => ?_) (fun h_2 => ?_)
  · refine pw_iconst C dX10_eval_22 ?_
    refine pw_istore_n (i := 2) (lv' := [(0, .ref b), (1, .int (iZ o)), (2, .int (iZ (-1)))]) C dX10_eval_23 rfl (by decide) rfl ?_
    refine pw_iload_n (i := 2) C dX10_eval_24 rfl rfl ?_
    refine pw_iconst C dX10_eval_25 ?_
    refine pw_icmp_eq (tgt := 38) C (by omega) (by omega) dX10_eval_26 (by decide) (fun h_3 => ?_) (fun h_3 => ?_)
    · refine pw_iconst C dX10_eval_38 ?_
      exact pw_iret C hr dX10_eval_39 (rCc.of (R0 := (2, none, 0, 0, nk)) (if_neg (by omega)) ⟨x, t, n, sN, fZ, rfl, ⟨h0, hR, hK, hD, ⟨hBt, hWk, hIt, hEv, hTp, hTl, hMp⟩, hO, h7, h10, h32, h37, h39, h40, h41, h45, h47, h69, h38⟩, Ext.rf, by omega, by omega, ⟨rfl, rfl, rfl⟩, fun k hk => rfl⟩)
    · exfalso; omega
  · refine pw_aload_n (i := 0) C dX10_eval_9 rfl rfl (Or.inr ⟨_, rfl⟩) ?_
    refine pw_aload_n (i := 0) C dX10_eval_10 rfl rfl (Or.inr ⟨_, rfl⟩) ?_
    refine pw_iload_n (i := 1) C dX10_eval_11 rfl rfl ?_
    refine pw_iconst C dX10_eval_12 ?_
    refine pw_callV (As := [.int (iZ o), .int (iZ 1)]) (st := [.ref b]) C (m_X10_nth g l h0 hR h7 h10 hK ho (i := 1) (by omega) (fun q hq => ln_p (k := 2) (by omega) q (by omega))) my_X10_nth ml_X10_292 (pw_rec.of C h0 cl_X10.1) rfl ⟨Nat.le_of_ble_eq_true rfl, Nat.le_of_ble_eq_true rfl⟩ ⟨by (try dsimp only); omega, by (try dsimp only); omega⟩ rfl (Nat.le_of_ble_eq_true rfl) dX10_eval_13 ?_
    rintro _ _ ⟨rfl, z_4, rfl, z_4q⟩
    have z_4v : Vl t n z_4 (obCar (obCdr X)) := z_4q
    have z_4r := Vl.rg hR z_4v
    refine pw_stk (st' := [.int (iZ z_4), .ref b]) rfl ?_
    obtain ⟨q_5a, q_5b, q_5c, q_5d, q_5h⟩ := hBt
    refine pw_callV (As := [.int (iZ z_4)]) (st := []) C (m_X10_termOf g l h0 hR h7 h10 hK hD h32 z_4v hTn hDl (cm := -1) (cn := x 38) (Or.inl ⟨rfl, rfl⟩) hTn hT6 h38 h37 ⟨by decide, by decide⟩ rfl h45 h47 q_5h (nd2_a hnd (ln_p (k := 2) (by omega) 1 (by omega))) (by have := (nd2_a hnd (ln_p (k := 2) (by omega) 1 (by omega))); omega)) my_X10_termOf ml_X10_430 (pw_rec.of C h0 cl_X10.1) rfl ⟨Nat.le_of_ble_eq_true rfl, Nat.le_of_ble_eq_true rfl⟩ ⟨by (try dsimp only); omega, by (try dsimp only); omega⟩ rfl (Nat.le_of_ble_eq_true rfl) dX10_eval_16 ?_
    rintro _ w_17 ⟨z_6, t_7, n_8, sN_9, Z_10, f_20, f_21, f_22, f_23, rfl, e_11, R_12, x_13, hn_14, hs_15, hv_19, A_18, o_16⟩
    have x_131 := x_13.1
    have R_12n := R_12.n
    have z_6d := (nd2_a hnd (ln_p (k := 2) (by omega) 1 (by omega)))
    have v_24 := Vl.ext ho x_13
    have v_25 := Vl.ext z_4v x_13
    have K_26 := RK.ext hK x_13
    have G_27 : gBt g w_17 B := ⟨f_20, f_21, f_22, f_23, A_18⟩
    have z_6r : -1 ≤ z_6 ∧ z_6 < 40000 := by
      split at hv_19
      · have := Vl.rg R_12 hv_19; omega
      · omega
    refine pw_stk (st' := [.int (iZ z_6)]) rfl ?_
    refine pw_goto (tgt := 23) C dX10_eval_19 (by decide) ?_
    refine pw_istore_n (i := 2) (lv' := [(0, .ref b), (1, .int (iZ o)), (2, .int (iZ z_6))]) C dX10_eval_23 rfl (by decide) rfl ?_
    refine pw_iload_n (i := 2) C dX10_eval_24 rfl rfl ?_
    refine pw_iconst C dX10_eval_25 ?_
    refine pw_icmp_eq (tgt := 38) C (by omega) (by omega) dX10_eval_26 (by decide) (fun h_28 => ?_) (fun h_28 => ?_)
    · have hno : isTm (plT T) va1 (obCar (obCdr X)) = false := by
        cases hb : isTm (plT T) va1 (obCar (obCdr X)) with
        | false => rfl
        | true => rw [hb, if_pos rfl] at hv_19; have := Vl.rg R_12 hv_19; omega
      refine pw_iconst C dX10_eval_38 ?_
      have D_29 := hD.same (w' := w_17) (fun k hk => (o_16 k (by omega))) x_13
      have G_30 := hWk.same (w' := w_17) (fun k hk => (o_16 k (by omega)))
      have G_31 := hIt.same (w' := w_17) (fun k hk => (o_16 k (by omega)))
      have G_32 := hEv.same (w' := w_17) (fun k hk => (o_16 k (by omega)))
      have G_33 := hTp.same (w' := w_17) (fun k hk => (o_16 k (by omega)))
      have G_34 := hTl.same (w' := w_17) (fun k hk => (o_16 k (by omega)))
      have G_35 := hMp.same (w' := w_17) (fun k hk => (o_16 k (by omega)))
      exact pw_iret C hr dX10_eval_39 (rCc.of (R0 := (2, none, 0, 0, nk)) ((if_pos (by omega)).trans (evC_no (by rw [isTm_two, ← isTm_plT T va1, hno]; rfl))) ⟨(va_up (va_up x 7 n_8) 10 ((sN_9 : Nat) : Int)), t_7, n_8, sN_9, Z_10, rfl, ⟨e_11, R_12, K_26, D_29, ⟨G_27, G_30, G_31, G_32, G_33, G_34, G_35⟩, (hO.same ((o_16 1015 (by omega)))), rfl, rfl, h32, h37, h39, h40, h41, h45, h47, h69, h38⟩, x_13, by omega, by omega, ⟨rfl, rfl, rfl⟩, fun k hk => (o_16 k (by omega))⟩)
    · have hyes : isTm (plT T) va1 (obCar (obCdr X)) = true := by
        cases hb : isTm (plT T) va1 (obCar (obCdr X)) with
        | true => rfl
        | false => rw [hb] at hv_19; have : z_6 = -1 := hv_19; omega
      rw [hyes, if_pos rfl] at hv_19
      have z_6r := Vl.rg R_12 hv_19
      have hyesp := isTm_pl hyes
      refine pw_aload_n (i := 0) C dX10_eval_29 rfl rfl (Or.inr ⟨_, rfl⟩) ?_
      refine pw_iload_n (i := 2) C dX10_eval_30 rfl rfl ?_
      refine pw_iconst C dX10_eval_31 ?_
      have G_36 := hWk.same (w' := w_17) (fun k hk => (o_16 k (by omega)))
      have G_37 := hIt.same (w' := w_17) (fun k hk => (o_16 k (by omega)))
      obtain ⟨q_38a, q_381, q_382⟩ := G_36
      obtain ⟨q_38b, q_383, q_384⟩ := G_37
      refine pw_callV (As := [.int (iZ z_6), .int (iZ 0)]) (st := []) C (m_X10_hasOnly g l e_11 R_12 rfl rfl K_26 hv_19 (P := oNil) (RK.v K_26 0 (by decide)) (by decide +kernel) q_381 q_382 q_383 q_384 hyesp.1 hyesp.2) my_X10_hasOnly ml_X10_433 (pw_rec.of C e_11 cl_X10.1) rfl ⟨Nat.le_of_ble_eq_true rfl, Nat.le_of_ble_eq_true rfl⟩ ⟨by (try dsimp only); omega, by (try dsimp only); omega⟩ rfl (Nat.le_of_ble_eq_true rfl) dX10_eval_32 ?_
      rintro _ w_49 ⟨rfl, ⟨v_39, u_40, fw_41, fi_42, e_43, e_44, g_45, e_46, g_47⟩, o_48⟩
      have G_50 : gWk g w_49 B := ⟨fw_41, e_44, g_45⟩
      have G_51 : gIt g w_49 B := ⟨fi_42, e_46, g_47⟩
      refine pw_stk (st' := [.int (iZ (b2i ((vr2 (fun q => obEl q oNil) (pl2 (obCar (obCdr X))).1).1)))]) rfl ?_
      refine pw_if_neB (tgt := 40) C dX10_eval_35 (by decide) (fun h_52 => ?_) (fun h_52 => ?_)
      · refine pw_aload_n (i := 0) C dX10_eval_40 rfl rfl (Or.inr ⟨_, rfl⟩) ?_
        refine pw_iload_n (i := 2) C dX10_eval_41 rfl rfl ?_
        have hit : isTm T (fun q => obEl q oNil) (obCar (obCdr X)) = true := by rw [isTm_ref T _ _ (by rw [← isTm_plT]; exact hyes)]; exact h_52
        have hwv := ev_wf (B0 := oNil) hit (fun q hq => by cases hq)
        have G_53 := hTp.same (w' := w_49) (fun k hk => (o_48 k (by omega)).trans (o_16 k (by omega)))
        have R_54 := R_12.same (w' := w_49) (fun k hk => (o_48 k (by omega)))
        have D_55 := hD.same (w' := w_49) (fun k hk => (o_48 k (by omega)).trans (o_16 k (by omega))) x_13
        have G_56 := G_27.same (w' := w_49) (fun k hk => (o_48 k (by omega)))
        have G_57 := hEv.same (w' := w_49) (fun k hk => (o_48 k (by omega)).trans (o_16 k (by omega)))
        have G_58 := hTl.same (w' := w_49) (fun k hk => (o_48 k (by omega)).trans (o_16 k (by omega)))
        have G_59 := hMp.same (w' := w_49) (fun k hk => (o_48 k (by omega)).trans (o_16 k (by omega)))
        have hCt : CmW g w_49 b B (va_up (va_up (va_up (va_up x 7 n_8) 10 ((sN_9 : Nat) : Int)) 49 v_39) 51 u_40) t_7 n_8 sN_9 Z_10 (plT T) [] fu 0 0 0 := ⟨e_43, R_54, K_26, D_55, ⟨G_56, G_50, G_51, G_57, G_53, G_58, G_59⟩, (hO.same ((o_48 1015 (by omega)).trans (o_16 1015 (by omega)))), rfl, rfl, h32, h37, h39, h40, h41, h45, h47, h69, h38⟩
        obtain ⟨R9, hR9⟩ : ∃ R9, mRun (plT T) fu 30000 0 ((pl2 (obCar (obCdr X))).1) (bEnv oNil) [] 0 nk = R9 := ⟨_, rfl⟩
        have hrn := ev_ref (fu := fu) (nk := nk) hTo0 hwv.1
        rw [hR9] at hrn
        refine pw_callV (As := [.int (iZ z_6)]) (st := []) C (m_X10_toldValue g l hCt hv_19 (be := (bEnv oNil)) (G_53.bd t_7 n_8) hfu hTo hTn hwv.2 (by omega) hR9) my_X10_toldValue ml_X10_436 (pw_rec.of C e_43 cl_X10.1) rfl ⟨Nat.le_of_ble_eq_true rfl, Nat.le_of_ble_eq_true rfl⟩ ⟨by (try dsimp only); omega, by (try dsimp only); omega⟩ rfl (Nat.le_of_ble_eq_true rfl) dX10_eval_42 ?_
        rintro _ w_60 ⟨x9, t9, n9, s9, Z9, rfl, hC9, hx9, hn9, hs9, hk9, hf9⟩
        refine pw_stk (st' := [.int (iZ (if R9.1 = 0 then 0 else 4))]) rfl ?_
        exact pw_iret C hr dX10_eval_45 (rCc.of (if_pos (by omega)) (rCc.ev hit hrn (rCo.tr x_13 (c1 := 3010) (by omega) (by omega) ⟨rfl, rfl, rfl⟩ (fun k hk => (o_48 k (by omega)).trans (o_16 k (by omega))) ⟨x9, t9, n9, s9, Z9, rfl, hC9, hx9, hn9, hs9, hk9, hf9⟩ (by omega))))
      · refine pw_iconst C dX10_eval_38 ?_
        have R_61 := R_12.same (w' := w_49) (fun k hk => (o_48 k (by omega)))
        have D_62 := hD.same (w' := w_49) (fun k hk => (o_48 k (by omega)).trans (o_16 k (by omega))) x_13
        have G_63 := G_27.same (w' := w_49) (fun k hk => (o_48 k (by omega)))
        have G_64 := hEv.same (w' := w_49) (fun k hk => (o_48 k (by omega)).trans (o_16 k (by omega)))
        have G_65 := hTp.same (w' := w_49) (fun k hk => (o_48 k (by omega)).trans (o_16 k (by omega)))
        have G_66 := hTl.same (w' := w_49) (fun k hk => (o_48 k (by omega)).trans (o_16 k (by omega)))
        have G_67 := hMp.same (w' := w_49) (fun k hk => (o_48 k (by omega)).trans (o_16 k (by omega)))
        exact pw_iret C hr dX10_eval_39 (rCc.of (R0 := (2, none, 0, 0, nk)) ((if_pos (by omega)).trans (evC_no (by rw [isTm_ref T _ _ (by rw [← isTm_plT]; exact hyes)]; exact h_52))) ⟨(va_up (va_up (va_up (va_up x 7 n_8) 10 ((sN_9 : Nat) : Int)) 49 v_39) 51 u_40), t_7, n_8, sN_9, Z_10, rfl, ⟨e_43, R_61, K_26, D_62, ⟨G_63, G_50, G_51, G_64, G_65, G_66, G_67⟩, (hO.same ((o_48 1015 (by omega)).trans (o_16 1015 (by omega)))), rfl, rfl, h32, h37, h39, h40, h41, h45, h47, h69, h38⟩, x_13, by omega, by omega, ⟨rfl, rfl, rfl⟩, fun k hk => (o_48 k (by omega)).trans (o_16 k (by omega))⟩)

