set_option maxRecDepth 100000 in
set_option maxHeartbeats 4000000 in
/-- startWith -/
theorem tm_startWith (g : pw_P) (l : Launch) {w : pw_W} {A : Nat → Nat} {cap : Nat} {t : Int → Ob} {n : Int} (hS : SB g w (A 2) cap t n) (hM : TmJ g w A) {x : Int} {X : Ob} (hx : Vl t n x X) : pw_M g l yX8_startWith cX8_startWith 2 none { frames := 0, cells := 0, slots := 0, locals := 0 } [.ref (A 21), .int (iZ x)] w (fun r w' => r = none ∧ TmI g w' A t n [X] ∧ ∀ k, (k < 21 ∨ 22 < k) → w' k = w k) := by
  refine pw_M.of (by decide) (Nat.le_of_ble_eq_true rfl) rfl ?_
  intro p e s m args below meth c C hr hn
  obtain ⟨f, cx, k1, k2, k3⟩ := id hM
  have hn0 := hS.n
  have hxr := Vl.rng hS hx
  refine pw_aload_n (i := 0) C dX8_startWith_0 rfl rfl (Or.inr ⟨_, rfl⟩) ?_
  refine pw_get (j := 2) C cl_X8 fl_X8_9 (by decide) rfl k1 rfl dX8_startWith_1 ?_
  refine pw_iconst C dX8_startWith_4 ?_
  refine pw_iload_n (i := 1) C dX8_startWith_5 rfl rfl ?_
  refine pw_iast C k2 ⟨by omega, by omega, by omega⟩ dX8_startWith_6 (fun w_3 k_1 o_2 => ?_)
  refine pw_aload_n (i := 0) C dX8_startWith_7 rfl rfl (Or.inr ⟨_, rfl⟩) ?_
  refine pw_iconst C dX8_startWith_8 ?_
  have c_4 := (o_2 21 (by omega)).trans k1
  refine pw_put (j := 3) C cl_X8 fl_X8_27 (by decide) rfl rfl rfl rfl rfl c_4 (Nat.le_of_ble_eq_true rfl) dX8_startWith_9 (fun w_7 k_5 o_6 => ?_)
  have k_8 : w_7 21 = ((A 21), some (OB 8 [.ref (A 2), .ref (A 16), .ref (A 22), .int (iZ 1)])) := k_5
  have c_9 := (o_6 22 (by omega)).trans k_1
  exact pw_vret C hr dX8_startWith_12 ⟨rfl, ⟨_, k_8, c_9, upz_inI k3 (by omega), ⟨by rw [upz_self]; exact hx, trivial⟩, by simp⟩, fun k hk => (o_6 k (by omega)).trans (o_2 k (by omega))⟩

def wfA (T : List Dn) (vs : Ob → Bool) (q : List Ob) : Bool := q.all (fun x => (wf2 T vs x).1)
def szA : List Ob → Nat
  | [] => 0
  | x :: q => (sz2 x).1 + szA q
/-- a term with these variables, of a size that it may have -/
def isTm (T : List Dn) (vs : Ob → Bool) (x : Ob) : Bool := (wf2 T vs x).1 && decide ((sz2 x).1 ≤ 120)
theorem sz2_1 (x : Ob) : 1 ≤ (sz2 x).1 := by
  cases x with
  | add a b => simp only [sz2]; split <;> omega
  | _ => exact Nat.le_refl _
theorem szA_len (q : List Ob) : q.length ≤ szA q := by
  induction q with
  | nil => exact Nat.le_refl _
  | cons x q ih => have := sz2_1 x; simp only [szA, List.length_cons]; omega
theorem szA_app (q q' : List Ob) : szA (q ++ q') = szA q + szA q' := by
  induction q with
  | nil => simp [szA]
  | cons x q ih => simp only [List.cons_append, szA, ih]; omega
theorem sz2_ls (x : Ob) : (sz2 x).2 = szA (lsO x) := by
  induction x with
  | add a b ha hb => simp only [sz2, lsO, szA, hb]
  | _ => rfl
theorem wf2_ls (T : List Dn) (vs : Ob → Bool) (x : Ob) : (wf2 T vs x).2 = wfA T vs (lsO x) := by
  induction x with
  | add a b ha hb => simp only [wf2, lsO, wfA, List.all_cons, hb]
  | _ => rfl
theorem wf_cl {T : List Dn} {vs : Ob → Bool} {X : Ob} (hp : obP X = true) (hq : obQ X = false) : (wf2 T vs X).1 = (decide (0 ≤ arT T (obCar X) ∧ arT T (obCar X) = obLen (obCdr X)) && wfA T vs (lsO (obCdr X))) := by
  cases X with
  | add a b => simp only [wf2, hq, Bool.false_or, obCar, obCdr, wf2_ls] <;> rfl
  | _ => cases hp
theorem sz_cl {X : Ob} (hp : obP X = true) (hq : obQ X = false) : (sz2 X).1 = 1 + szA (lsO (obCdr X)) := by
  cases X with
  | add a b => simp only [sz2, hq, obCdr, sz2_ls]; rfl
  | _ => cases hp
theorem wf_at {T : List Dn} {vs : Ob → Bool} {X : Ob} (hv : obV X = false) (hp : obP X = false ∨ obQ X = true) : (wf2 T vs X).1 = true ∧ (sz2 X).1 = 1 := by
  cases X with
  | add a b =>
    rcases hp with hp | hp
    · cases hp
    · simp only [wf2, sz2, hp, Bool.true_or, if_true]; exact ⟨trivial, trivial⟩
  | _ => simp only [wf2, sz2, hv]; exact ⟨rfl, trivial⟩
theorem wf_va {T : List Dn} {vs : Ob → Bool} {X : Ob} (hv : obV X = true) : (wf2 T vs X).1 = vs X ∧ (sz2 X).1 = 1 := by
  cases X with
  | add a b => simp [obV, obS] at hv
  | _ => simp only [wf2, sz2, hv, if_true]; exact ⟨trivial, trivial⟩
theorem arT_own {T : List Dn} {N P N' : Ob} (hk : 16 < kIx N) : arT ((N, P, oNil) :: T) N' = if N' = N then obLen P else arT T N' := by
  unfold arT
  by_cases h : N' = N
  · rw [if_pos h, h, if_neg (by omega)]
    simp only [dLk, if_true]
  · rw [if_neg h]
    simp only [dLk]
    rw [show (if N = N' then some (N, P, oNil) else dLk T N') = dLk T N' from if_neg (fun q => h q.symm)]
theorem sMx_r (x z : Int) : z ≤ sMx x z := by unfold sMx; split <;> omega
theorem obLen_le_ht : ∀ Y : Ob, obLen Y ≤ obHt Y := by
  intro Y
  induction Y with
  | add a b ha hb => simp only [obLen, obHt]; have := sMx_r (obHt a) (obHt b); have := obHt_ge (.add a b); simp only [obHt] at this; split <;> omega
  | _ => simp only [obLen, obHt]; split <;> omega
theorem DsT.par {t : Int → Ob} {n : Int} {d : Dn} : ∀ {ds : List Df} {T : List Dn}, DsT t n ds T → d ∈ T → ∃ z, Vl t n z d.2.1
  | [], [], _, hm => by cases hm
  | q :: _, Q :: _, h, hm => by
    rcases List.mem_cons.mp hm with rfl | hm
    · exact ⟨_, h.2.2.1⟩
    · exact DsT.par h.2.2.2.2 hm
  | [], _ :: _, h, _ => h.elim
  | _ :: _, [], h, _ => h.elim
theorem wfA_cons (T : List Dn) (vs : Ob → Bool) (x : Ob) (q : List Ob) : wfA T vs (x :: q) = ((wf2 T vs x).1 && wfA T vs q) := by simp [wfA]
theorem wfA_app (T : List Dn) (vs : Ob → Bool) (q q' : List Ob) : wfA T vs (q ++ q') = (wfA T vs q && wfA T vs q') := by simp [wfA]
theorem obLen_in {g : pw_P} {w : pw_W} {b cap : Nat} {t : Int → Ob} {n o : Int} {X : Ob} (hS : SB g w b cap t n) (hX : Vl t n o X) : -1 ≤ obLen (obCdr X) ∧ obLen (obCdr X) < 16384 := by
  have h0 := obLen_ge (obCdr X)
  have hh := Vl.ht hS hX
  have h1 := obLen_le_ht (obCdr X)
  have h2 : obHt (obCdr X) ≤ obHt X := by
    cases X with
    | add a b => simp only [obCdr, obHt]; have := sMx_r (obHt a) (obHt b); omega
    | _ => exact Int.le_refl _
  omega
theorem arT_in {g : pw_P} {w : pw_W} {b cap : Nat} {t : Int → Ob} {n : Int} {ds : List Df} {T : List Dn} (hD : DsT t n ds T) (hS : SB g w b cap t n) (X : Ob) : inI (arT T X) := by
  unfold arT
  split
  · have := arB_in (kIx X); constructor <;> omega
  · split
    · rename_i d hd
      obtain ⟨z, hz⟩ := DsT.par hD (dLk_mem hd).1
      have h1 := Vl.ht hS hz
      have h2 := obLen_le_ht d.2.1
      have h3 := obLen_ge d.2.1
      constructor <;> omega
    · decide
/-- the own name of a function that is being defined -/
def OwnI (t : Int → Ob) (n : Int) (ow ot : Int) (T T1 : List Dn) : Prop := (ow = -1 ∧ T1 = T) ∨ ∃ N P, Vl t n ow N ∧ 16 < kIx N ∧ ot = obLen P ∧ T1 = (N, P, oNil) :: T
theorem arO_y {z ow ot : Int} {N : Ob} {T T1 : List Dn} (h : (z = ow ∧ arT T1 N = ot) ∨ (z ≠ ow ∧ arT T1 N = arT T N)) (e : z = ow) : arT T1 N = ot := h.elim (fun h => h.2) (fun h => absurd e h.1)
theorem arO_n {z ow ot : Int} {N : Ob} {T T1 : List Dn} (h : (z = ow ∧ arT T1 N = ot) ∨ (z ≠ ow ∧ arT T1 N = arT T N)) (e : z ≠ ow) : arT T1 N = arT T N := h.elim (fun h => absurd h.1 e) (fun h => h.2)
theorem OwnI.ar {g : pw_P} {w : pw_W} {b cap : Nat} {t : Int → Ob} {n ow ot : Int} {T T1 : List Dn} (hS : SB g w b cap t n) (h : OwnI t n ow ot T T1) (z : Int) (N : Ob) (hz : Vl t n z N) : (z = ow ∧ arT T1 N = ot) ∨ (z ≠ ow ∧ arT T1 N = arT T N) := by
  rcases h with ⟨rfl, rfl⟩ | ⟨M, P, h1, h2, h3, rfl⟩
  · exact Or.inr ⟨by have := hz.1; omega, rfl⟩
  · by_cases e : z = ow
    · exact Or.inl ⟨e, by rw [arT_own h2, if_pos ((Vl.inj hS hz h1).mp e), h3]⟩
    · exact Or.inr ⟨e, by rw [arT_own h2, if_neg (fun q => e ((Vl.inj hS hz h1).mpr q))]⟩
set_option maxRecDepth 100000 in
set_option maxHeartbeats 4000000 in
/-- isTerm -/
theorem m_X8_isTerm (g : pw_P) (l : Launch) {w : pw_W} {A : Nat → Nat} {cap : Nat} {t : Int → Ob} {n : Int} (hS : SB g w (A 2) cap t n) (hM : TmJ g w A) {D : Nat → Nat} {ds : List Df} {T : List Dn} (hF : FnI g w A D ds) (hD : DsT t n ds T) {T1 : List Dn} {x vz ow ot : Int} {X Vs : Ob} (hx : Vl t n x X) (hvz : Vl t n vz Vs) (hown0 : OwnI t n ow ot T T1) (hor : inI ow ∧ inI ot) : pw_M g l yX8_isTerm cX8_isTerm 9 (some .boolean) { frames := 3, cells := 0, slots := 0, locals := 66 } [.ref (A 21), .int (iZ x), .int (iZ vz), .int (iZ ow), .int (iZ ot)] w (fun r w' => r = some (.int (iZ (b2i (isTm T1 (fun q => obEl q Vs) X)))) ∧ TmJ g w' A ∧ ∀ k, (k < 21 ∨ 22 < k) → w' k = w k) := by
  refine pw_M.of (by decide) (Nat.le_of_ble_eq_true rfl) rfl ?_
  intro p e s m args below meth c C hr hn
  obtain ⟨f, cx, k1, k2, k3⟩ := id hM
  have hn0 := hS.n
  have hvzr := Vl.rng hS hvz
  have hown := fun z N hz => OwnI.ar hS hown0 z N hz
  have loop : ∀ (kk i : Nat) (L : List Ob) (w1 : pw_W), i + kk = 120 → i ≤ L.length → SB g w1 (A 2) cap t n → TmI g w1 A t n L → (∀ k, (k < 21 ∨ 22 < k) → w1 k = w k) → (wfA T1 (fun q => obEl q Vs) (L.drop i) && decide (i + szA (L.drop i) ≤ 120)) = isTm T1 (fun q => obEl q Vs) X → pw_G g p l e { frames := 3, cells := 0, slots := 0, locals := 66 } s m args below meth c 9 (pw_Q g below (fun r w' => r = some (.int (iZ (b2i (isTm T1 (fun q => obEl q Vs) X)))) ∧ TmJ g w' A ∧ ∀ k, (k < 21 ∨ 22 < k) → w' k = w k) args s { frames := 3, cells := 0, slots := 0, locals := 66 }) 0 0 8 [(0, .ref (A 21)), (1, .int (iZ x)), (2, .int (iZ vz)), (3, .int (iZ ow)), (4, .int (iZ ot)), (5, .int (iZ ((i : Nat) : Int)))] [] w1 := by
    intro kk
    induction kk with
    | zero =>
      intro i L w1 hi hil hS1 hM1 hf1 hq
      obtain ⟨f, k1, k2, k3, k4, k5⟩ := id hM1
      have hdr0 : L.drop i = [] := List.drop_eq_nil_of_le (by omega)
      refine pw_iload C dX8_isTerm_8 rfl ?_
      refine pw_aload_n (i := 0) C dX8_isTerm_10 rfl rfl (Or.inr ⟨_, rfl⟩) ?_
      refine pw_get (j := 3) C cl_X8 fl_X8_27 (by decide) rfl k1 rfl dX8_isTerm_11 ?_
      refine pw_icmp_ge (tgt := 158) C (by omega) (by omega) dX8_isTerm_14 (by decide) (fun h_21 => ?_) (fun h_21 => ?_)
      · refine pw_iconst C dX8_isTerm_158 ?_
        exact pw_zret C hr (by decide +kernel) dX8_isTerm_159 ⟨by rw [show isTm T1 (fun q => obEl q Vs) X = true from by rw [← hq]; rw [hdr0, show decide (i + szA [] ≤ 120) = true from decide_eq_true (by simp only [szA]; omega)]; rfl]; rfl, hM1.J, hf1⟩
      · exfalso; omega
    | succ kk ih =>
      intro i L w1 hi hil hS1 hM1 hf1 hq
      obtain ⟨f, k1, k2, k3, k4, k5⟩ := id hM1
      have hF1 : FnI g w1 A D ds := hF.same (fun k h => hf1 k (by omega))
      cases hY : L[i]? with
      | none =>
        have hge := List.getElem?_eq_none_iff.mp hY
        have hdr0 : L.drop i = [] := List.drop_eq_nil_of_le (by omega)
        refine pw_iload C dX8_isTerm_8 rfl ?_
        refine pw_aload_n (i := 0) C dX8_isTerm_10 rfl rfl (Or.inr ⟨_, rfl⟩) ?_
        refine pw_get (j := 3) C cl_X8 fl_X8_27 (by decide) rfl k1 rfl dX8_isTerm_11 ?_
        refine pw_icmp_ge (tgt := 158) C (by omega) (by omega) dX8_isTerm_14 (by decide) (fun h_21 => ?_) (fun h_21 => ?_)
        · refine pw_iconst C dX8_isTerm_158 ?_
          exact pw_zret C hr (by decide +kernel) dX8_isTerm_159 ⟨by rw [show isTm T1 (fun q => obEl q Vs) X = true from by rw [← hq]; rw [hdr0, show decide (i + szA [] ≤ 120) = true from decide_eq_true (by simp only [szA]; omega)]; rfl]; rfl, hM1.J, hf1⟩
        · exfalso; omega
      | some Y =>
        have hlt := (List.getElem?_eq_some_iff.mp hY).1
        have hdrop : L.drop i = Y :: L.drop (i + 1) := by rw [List.drop_eq_getElem_cons hlt, (List.getElem?_eq_some_iff.mp hY).2]
        refine pw_iload C dX8_isTerm_8 rfl ?_
        refine pw_aload_n (i := 0) C dX8_isTerm_10 rfl rfl (Or.inr ⟨_, rfl⟩) ?_
        refine pw_get (j := 3) C cl_X8 fl_X8_27 (by decide) rfl k1 rfl dX8_isTerm_11 ?_
        refine pw_icmp_ge (tgt := 158) C (by omega) (by omega) dX8_isTerm_14 (by decide) (fun h_51 => ?_) (fun h_51 => ?_)
        · exfalso; omega
        · refine pw_iload C dX8_isTerm_17 rfl ?_
          refine pw_bipush C dX8_isTerm_19 (by decide) ?_
          refine pw_icmp_ge (tgt := 158) C (by omega) (by omega) dX8_isTerm_21 (by decide) (fun h_52 => ?_) (fun h_52 => ?_)
          · exfalso; omega
          · refine pw_aload_n (i := 0) C dX8_isTerm_24 rfl rfl (Or.inr ⟨_, rfl⟩) ?_
            refine pw_get (j := 2) C cl_X8 fl_X8_9 (by decide) rfl k1 rfl dX8_isTerm_25 ?_
            refine pw_iload C dX8_isTerm_28 rfl ?_
            refine pw_iald C k2 ⟨by omega, by omega, by omega⟩ dX8_isTerm_30 ?_
            have hpv : Vl t n (f ((i : Nat) : Int)) Y := by have := VlsI.mem i k4 hY; rw [Int.zero_add] at this; exact this
            have hpr0 := Vl.rng hS1 hpv
            refine pw_istore (lv' := [(0, .ref (A 21)), (1, .int (iZ x)), (2, .int (iZ vz)), (3, .int (iZ ow)), (4, .int (iZ ot)), (5, .int (iZ ((i : Nat) : Int))), (6, .int (iZ (f ((i : Nat) : Int))))]) C dX8_isTerm_31 (by decide) rfl ?_
            refine pw_aload_n (i := 0) C dX8_isTerm_33 rfl rfl (Or.inr ⟨_, rfl⟩) ?_
            refine pw_get (j := 0) C cl_X8 fl_X8_15 (by decide) rfl k1 rfl dX8_isTerm_34 ?_
            refine pw_iload C dX8_isTerm_37 rfl ?_
            refine pw_callV (As := [.int (iZ (f ((i : Nat) : Int)))]) (st := []) C (vr_isVariable hS1 hpv) my_X6_isVariable ml_X8_31 (hS1.rec C) rfl ⟨Nat.le_of_ble_eq_true rfl, Nat.le_of_ble_eq_true rfl⟩ ⟨Nat.le_of_ble_eq_true rfl, Nat.le_of_ble_eq_true rfl⟩ rfl (Nat.le_of_ble_eq_true rfl) dX8_isTerm_39 ?_
            rintro _ _ ⟨rfl, rfl⟩
            refine pw_stk (st' := [.int (iZ (b2i (obV Y)))]) rfl ?_
            refine pw_if_eqB (tgt := 60) C dX8_isTerm_42 (by decide) (fun h_53 => ?_) (fun h_53 => ?_)
            · have hvn := h_53
              refine pw_aload_n (i := 0) C dX8_isTerm_60 rfl rfl (Or.inr ⟨_, rfl⟩) ?_
              refine pw_get (j := 0) C cl_X8 fl_X8_15 (by decide) rfl k1 rfl dX8_isTerm_61 ?_
              refine pw_iload C dX8_isTerm_64 rfl ?_
              refine pw_callV (As := [.int (iZ (f ((i : Nat) : Int)))]) (st := []) C (vr_isPair hS1 hpv) my_X6_isPair ml_X8_41 (hS1.rec C) rfl ⟨Nat.le_of_ble_eq_true rfl, Nat.le_of_ble_eq_true rfl⟩ ⟨Nat.le_of_ble_eq_true rfl, Nat.le_of_ble_eq_true rfl⟩ rfl (Nat.le_of_ble_eq_true rfl) dX8_isTerm_66 ?_
              rintro _ _ ⟨rfl, rfl⟩
              refine pw_stk (st' := [.int (iZ (b2i (obP Y)))]) rfl ?_
              refine pw_if_eqB (tgt := 152) C dX8_isTerm_69 (by decide) (fun h_54 => ?_) (fun h_54 => ?_)
              · refine pw_iinc (lv' := [(0, .ref (A 21)), (1, .int (iZ x)), (2, .int (iZ vz)), (3, .int (iZ ow)), (4, .int (iZ ot)), (5, .int (iZ (((i : Nat) : Int) + 1))), (6, .int (iZ (f ((i : Nat) : Int))))]) C dX8_isTerm_152 rfl (by decide) rfl ?_
                refine pw_goto (tgt := 8) C dX8_isTerm_155 (by decide) ?_
                refine pw_sub [0, 1, 2, 3, 4, 5] rfl ?_
                exact ih (i + 1) L w1 (by omega) (by omega) hS1 hM1 hf1 (by rw [← hq, hdrop, wfA_cons, szA, (wf_at (T := T1) (vs := fun q => obEl q Vs) hvn (Or.inl h_54)).1, (wf_at (T := T1) (vs := fun q => obEl q Vs) hvn (Or.inl h_54)).2, Bool.true_and, show i + 1 + szA (L.drop (i + 1)) = i + (1 + szA (L.drop (i + 1))) from by omega])
              · have hpr := h_54
                refine pw_aload_n (i := 0) C dX8_isTerm_72 rfl rfl (Or.inr ⟨_, rfl⟩) ?_
                refine pw_get (j := 0) C cl_X8 fl_X8_15 (by decide) rfl k1 rfl dX8_isTerm_73 ?_
                refine pw_iload C dX8_isTerm_76 rfl ?_
                refine pw_callV (As := [.int (iZ (f ((i : Nat) : Int)))]) (st := []) C (vr_isQuoted hS1 hpv) my_X6_isQuoted ml_X8_44 (hS1.rec C) rfl ⟨Nat.le_of_ble_eq_true rfl, Nat.le_of_ble_eq_true rfl⟩ ⟨Nat.le_of_ble_eq_true rfl, Nat.le_of_ble_eq_true rfl⟩ rfl (Nat.le_of_ble_eq_true rfl) dX8_isTerm_78 ?_
                rintro _ _ ⟨rfl, rfl⟩
                refine pw_stk (st' := [.int (iZ (b2i (obQ Y)))]) rfl ?_
                refine pw_if_neB (tgt := 152) C dX8_isTerm_81 (by decide) (fun h_55 => ?_) (fun h_55 => ?_)
                · refine pw_iinc (lv' := [(0, .ref (A 21)), (1, .int (iZ x)), (2, .int (iZ vz)), (3, .int (iZ ow)), (4, .int (iZ ot)), (5, .int (iZ (((i : Nat) : Int) + 1))), (6, .int (iZ (f ((i : Nat) : Int))))]) C dX8_isTerm_152 rfl (by decide) rfl ?_
                  refine pw_goto (tgt := 8) C dX8_isTerm_155 (by decide) ?_
                  refine pw_sub [0, 1, 2, 3, 4, 5] rfl ?_
                  exact ih (i + 1) L w1 (by omega) (by omega) hS1 hM1 hf1 (by rw [← hq, hdrop, wfA_cons, szA, (wf_at (T := T1) (vs := fun q => obEl q Vs) hvn (Or.inr h_55)).1, (wf_at (T := T1) (vs := fun q => obEl q Vs) hvn (Or.inr h_55)).2, Bool.true_and, show i + 1 + szA (L.drop (i + 1)) = i + (1 + szA (L.drop (i + 1))) from by omega])
                · have hqr := h_55
                  refine pw_aload_n (i := 0) C dX8_isTerm_84 rfl rfl (Or.inr ⟨_, rfl⟩) ?_
                  refine pw_get (j := 0) C cl_X8 fl_X8_15 (by decide) rfl k1 rfl dX8_isTerm_85 ?_
                  refine pw_iload C dX8_isTerm_88 rfl ?_
                  refine pw_callV (As := [.int (iZ (f ((i : Nat) : Int)))]) (st := []) C (vr_head hS1 hpv) my_X6_head ml_X8_47 (hS1.rec C) rfl ⟨Nat.le_of_ble_eq_true rfl, Nat.le_of_ble_eq_true rfl⟩ ⟨Nat.le_of_ble_eq_true rfl, Nat.le_of_ble_eq_true rfl⟩ rfl (Nat.le_of_ble_eq_true rfl) dX8_isTerm_90 ?_
                  rintro _ _ ⟨rfl, z_56, rfl, z_56v⟩
                  have z_56r := Vl.rng hS1 z_56v
                  refine pw_stk (st' := [.int (iZ z_56)]) rfl ?_
                  refine pw_istore (lv' := [(0, .ref (A 21)), (1, .int (iZ x)), (2, .int (iZ vz)), (3, .int (iZ ow)), (4, .int (iZ ot)), (5, .int (iZ ((i : Nat) : Int))), (6, .int (iZ (f ((i : Nat) : Int)))), (7, .int (iZ z_56))]) C dX8_isTerm_93 (by decide) rfl ?_
                  refine pw_iload C dX8_isTerm_95 rfl ?_
                  refine pw_iload_n (i := 3) C dX8_isTerm_97 rfl rfl ?_
                  refine pw_icmp_ne (tgt := 106) C (by omega) (by omega) dX8_isTerm_98 (by decide) (fun h_57 => ?_) (fun h_57 => ?_)
                  · have har : arT T1 (obCar Y) = arT T (obCar Y) := arO_n (hown _ _ z_56v) (by omega)
                    refine pw_aload_n (i := 0) C dX8_isTerm_106 rfl rfl (Or.inr ⟨_, rfl⟩) ?_
                    refine pw_iload C dX8_isTerm_107 rfl ?_
                    refine pw_callV (As := [.int (iZ z_56)]) (st := []) C (m_X8_takesOf g l hS1 hM1.J hF1 hD z_56v) my_X8_takesOf ml_X8_51 (hM1.rec C) rfl ⟨Nat.le_of_ble_eq_true rfl, Nat.le_of_ble_eq_true rfl⟩ ⟨Nat.le_of_ble_eq_true rfl, Nat.le_of_ble_eq_true rfl⟩ rfl (Nat.le_of_ble_eq_true rfl) dX8_isTerm_109 ?_
                    rintro _ _ ⟨rfl, rfl⟩
                    refine pw_stk (st' := [.int (iZ (arT T (obCar Y)))]) rfl ?_
                    have hai : inI (arT T (obCar Y)) := arT_in hD hS1 _
                    refine pw_istore (lv' := [(0, .ref (A 21)), (1, .int (iZ x)), (2, .int (iZ vz)), (3, .int (iZ ow)), (4, .int (iZ ot)), (5, .int (iZ ((i : Nat) : Int))), (6, .int (iZ (f ((i : Nat) : Int)))), (7, .int (iZ z_56)), (8, .int (iZ (arT T (obCar Y))))]) C dX8_isTerm_112 (by decide) rfl ?_
                    refine pw_iload C dX8_isTerm_114 rfl ?_
                    refine pw_iconst C dX8_isTerm_116 ?_
                    refine pw_icmp_eq (tgt := 150) C (by omega) (by omega) dX8_isTerm_117 (by decide) (fun h_58 => ?_) (fun h_58 => ?_)
                    · refine pw_iconst C dX8_isTerm_150 ?_
                      exact pw_zret C hr (by decide +kernel) dX8_isTerm_151 ⟨by rw [show isTm T1 (fun q => obEl q Vs) X = false from by rw [← hq]; rw [hdrop, wfA_cons, wf_cl hpr hqr, show decide (0 ≤ arT T1 (obCar Y) ∧ arT T1 (obCar Y) = obLen (obCdr Y)) = false from decide_eq_false (by rw [har]; omega), Bool.false_and, Bool.false_and, Bool.false_and]]; rfl, hM1.J, hf1⟩
                    · refine pw_iload C dX8_isTerm_120 rfl ?_
                      refine pw_aload_n (i := 0) C dX8_isTerm_122 rfl rfl (Or.inr ⟨_, rfl⟩) ?_
                      refine pw_get (j := 0) C cl_X8 fl_X8_15 (by decide) rfl k1 rfl dX8_isTerm_123 ?_
                      refine pw_aload_n (i := 0) C dX8_isTerm_126 rfl rfl (Or.inr ⟨_, rfl⟩) ?_
                      refine pw_get (j := 0) C cl_X8 fl_X8_15 (by decide) rfl k1 rfl dX8_isTerm_127 ?_
                      refine pw_iload C dX8_isTerm_130 rfl ?_
                      refine pw_callV (As := [.int (iZ (f ((i : Nat) : Int)))]) (st := [.ref (A 2), .int (iZ (arT T (obCar Y)))]) C (vr_tail hS1 hpv) my_X6_tail ml_X8_54 (hS1.rec C) rfl ⟨Nat.le_of_ble_eq_true rfl, Nat.le_of_ble_eq_true rfl⟩ ⟨Nat.le_of_ble_eq_true rfl, Nat.le_of_ble_eq_true rfl⟩ rfl (Nat.le_of_ble_eq_true rfl) dX8_isTerm_132 ?_
                      rintro _ _ ⟨rfl, z_59, rfl, z_59v⟩
                      have z_59r := Vl.rng hS1 z_59v
                      refine pw_stk (st' := [.int (iZ z_59), .ref (A 2), .int (iZ (arT T (obCar Y)))]) rfl ?_
                      refine pw_callV (As := [.int (iZ z_59)]) (st := [.int (iZ (arT T (obCar Y)))]) C (vr_lengthOf hS1 z_59v) my_X6_lengthOf ml_X8_57 (hS1.rec C) rfl ⟨Nat.le_of_ble_eq_true rfl, Nat.le_of_ble_eq_true rfl⟩ ⟨Nat.le_of_ble_eq_true rfl, Nat.le_of_ble_eq_true rfl⟩ rfl (Nat.le_of_ble_eq_true rfl) dX8_isTerm_135 ?_
                      rintro _ _ ⟨rfl, rfl⟩
                      refine pw_stk (st' := [.int (iZ (obLen (obCdr Y))), .int (iZ (arT T (obCar Y)))]) rfl ?_
                      have hole := obLen_in hS1 hpv
                      refine pw_icmp_ne (tgt := 150) C (by omega) (by omega) dX8_isTerm_138 (by decide) (fun h_60 => ?_) (fun h_60 => ?_)
                      · refine pw_iconst C dX8_isTerm_150 ?_
                        exact pw_zret C hr (by decide +kernel) dX8_isTerm_151 ⟨by rw [show isTm T1 (fun q => obEl q Vs) X = false from by rw [← hq]; rw [hdrop, wfA_cons, wf_cl hpr hqr, show decide (0 ≤ arT T1 (obCar Y) ∧ arT T1 (obCar Y) = obLen (obCdr Y)) = false from decide_eq_false (by rw [har]; omega), Bool.false_and, Bool.false_and, Bool.false_and]]; rfl, hM1.J, hf1⟩
                      · refine pw_aload_n (i := 0) C dX8_isTerm_141 rfl rfl (Or.inr ⟨_, rfl⟩) ?_
                        refine pw_iload C dX8_isTerm_142 rfl ?_
                        have hal : 0 ≤ obLen (obCdr Y) := by have := obLen_ge (obCdr Y); omega
                        refine pw_callV (As := [.int (iZ (f ((i : Nat) : Int)))]) (st := []) C (m_X8_addTermsOf g l hS1 hM1 hpv hal) my_X8_addTermsOf ml_X8_60 (hM1.rec C) rfl ⟨Nat.le_of_ble_eq_true rfl, Nat.le_of_ble_eq_true rfl⟩ ⟨Nat.le_of_ble_eq_true rfl, Nat.le_of_ble_eq_true rfl⟩ rfl (Nat.le_of_ble_eq_true rfl) dX8_isTerm_144 ?_
                        rintro rr w_61 ⟨hfa, hpost⟩
                        by_cases hsz : (L.length : Int) + obLen (obCdr Y) ≤ 120
                        · rw [if_pos hsz] at hpost
                          obtain ⟨rfl, hM2⟩ := hpost
                          refine pw_stk (st' := [.int (iZ 1)]) rfl ?_
                          refine pw_if_ne (tgt := 152) C (by omega) dX8_isTerm_147 (by decide) (fun h_62 => ?_) (fun h_62 => ?_)
                          · refine pw_iinc (lv' := [(0, .ref (A 21)), (1, .int (iZ x)), (2, .int (iZ vz)), (3, .int (iZ ow)), (4, .int (iZ ot)), (5, .int (iZ (((i : Nat) : Int) + 1))), (6, .int (iZ (f ((i : Nat) : Int)))), (7, .int (iZ z_56)), (8, .int (iZ (arT T (obCar Y))))]) C dX8_isTerm_152 rfl (by decide) rfl ?_
                            refine pw_goto (tgt := 8) C dX8_isTerm_155 (by decide) ?_
                            refine pw_sub [0, 1, 2, 3, 4, 5] rfl ?_
                            exact ih (i + 1) (L ++ lsO (obCdr Y)) w_61 (by omega) (by simp only [List.length_append]; omega) (hS1.same (fun k h1 h2 => hfa k (by omega))) hM2 (fun k hk => (hfa k hk).trans (hf1 k hk)) (by rw [← hq, hdrop, List.drop_append_of_le_length (by omega), wfA_app, wfA_cons, szA_app, szA, wf_cl hpr hqr, sz_cl hpr hqr, show decide (0 ≤ arT T1 (obCar Y) ∧ arT T1 (obCar Y) = obLen (obCdr Y)) = true from decide_eq_true (by rw [har]; omega), Bool.true_and, Bool.and_comm (wfA T1 _ (L.drop (i + 1))), show i + 1 + (szA (L.drop (i + 1)) + szA (lsO (obCdr Y))) = i + (1 + szA (lsO (obCdr Y)) + szA (L.drop (i + 1))) from by omega])
                          · exfalso; omega
                        · rw [if_neg hsz] at hpost
                          obtain ⟨rfl, hM2⟩ := hpost
                          refine pw_stk (st' := [.int (iZ 0)]) rfl ?_
                          refine pw_if_ne (tgt := 152) C (by omega) dX8_isTerm_147 (by decide) (fun h_63 => ?_) (fun h_63 => ?_)
                          · exfalso; omega
                          · refine pw_iconst C dX8_isTerm_150 ?_
                            exact pw_zret C hr (by decide +kernel) dX8_isTerm_151 ⟨by rw [show isTm T1 (fun q => obEl q Vs) X = false from by rw [← hq]; rw [hdrop, szA, sz_cl hpr hqr, show decide (i + (1 + szA (lsO (obCdr Y)) + szA (L.drop (i + 1))) ≤ 120) = false from decide_eq_false (by have h1 := szA_len (lsO (obCdr Y)); have h2 := lsO_len hal; have h3 := szA_len (L.drop (i + 1)); rw [List.length_drop] at h3; omega), Bool.and_false]]; rfl, hM2, (fun k hk => (hfa k hk).trans (hf1 k hk))⟩
                  · have har : arT T1 (obCar Y) = ot := arO_y (hown _ _ z_56v) (by omega)
                    refine pw_iload C dX8_isTerm_101 rfl ?_
                    refine pw_goto (tgt := 112) C dX8_isTerm_103 (by decide) ?_
                    refine pw_istore (lv' := [(0, .ref (A 21)), (1, .int (iZ x)), (2, .int (iZ vz)), (3, .int (iZ ow)), (4, .int (iZ ot)), (5, .int (iZ ((i : Nat) : Int))), (6, .int (iZ (f ((i : Nat) : Int)))), (7, .int (iZ z_56)), (8, .int (iZ ot))]) C dX8_isTerm_112 (by decide) rfl ?_
                    refine pw_iload C dX8_isTerm_114 rfl ?_
                    refine pw_iconst C dX8_isTerm_116 ?_
                    refine pw_icmp_eq (tgt := 150) C (by omega) (by omega) dX8_isTerm_117 (by decide) (fun h_64 => ?_) (fun h_64 => ?_)
                    · refine pw_iconst C dX8_isTerm_150 ?_
                      exact pw_zret C hr (by decide +kernel) dX8_isTerm_151 ⟨by rw [show isTm T1 (fun q => obEl q Vs) X = false from by rw [← hq]; rw [hdrop, wfA_cons, wf_cl hpr hqr, show decide (0 ≤ arT T1 (obCar Y) ∧ arT T1 (obCar Y) = obLen (obCdr Y)) = false from decide_eq_false (by rw [har]; omega), Bool.false_and, Bool.false_and, Bool.false_and]]; rfl, hM1.J, hf1⟩
                    · refine pw_iload C dX8_isTerm_120 rfl ?_
                      refine pw_aload_n (i := 0) C dX8_isTerm_122 rfl rfl (Or.inr ⟨_, rfl⟩) ?_
                      refine pw_get (j := 0) C cl_X8 fl_X8_15 (by decide) rfl k1 rfl dX8_isTerm_123 ?_
                      refine pw_aload_n (i := 0) C dX8_isTerm_126 rfl rfl (Or.inr ⟨_, rfl⟩) ?_
                      refine pw_get (j := 0) C cl_X8 fl_X8_15 (by decide) rfl k1 rfl dX8_isTerm_127 ?_
                      refine pw_iload C dX8_isTerm_130 rfl ?_
                      refine pw_callV (As := [.int (iZ (f ((i : Nat) : Int)))]) (st := [.ref (A 2), .int (iZ ot)]) C (vr_tail hS1 hpv) my_X6_tail ml_X8_54 (hS1.rec C) rfl ⟨Nat.le_of_ble_eq_true rfl, Nat.le_of_ble_eq_true rfl⟩ ⟨Nat.le_of_ble_eq_true rfl, Nat.le_of_ble_eq_true rfl⟩ rfl (Nat.le_of_ble_eq_true rfl) dX8_isTerm_132 ?_
                      rintro _ _ ⟨rfl, z_65, rfl, z_65v⟩
                      have z_65r := Vl.rng hS1 z_65v
                      refine pw_stk (st' := [.int (iZ z_65), .ref (A 2), .int (iZ ot)]) rfl ?_
                      refine pw_callV (As := [.int (iZ z_65)]) (st := [.int (iZ ot)]) C (vr_lengthOf hS1 z_65v) my_X6_lengthOf ml_X8_57 (hS1.rec C) rfl ⟨Nat.le_of_ble_eq_true rfl, Nat.le_of_ble_eq_true rfl⟩ ⟨Nat.le_of_ble_eq_true rfl, Nat.le_of_ble_eq_true rfl⟩ rfl (Nat.le_of_ble_eq_true rfl) dX8_isTerm_135 ?_
                      rintro _ _ ⟨rfl, rfl⟩
                      refine pw_stk (st' := [.int (iZ (obLen (obCdr Y))), .int (iZ ot)]) rfl ?_
                      have hole := obLen_in hS1 hpv
                      refine pw_icmp_ne (tgt := 150) C (by omega) (by omega) dX8_isTerm_138 (by decide) (fun h_66 => ?_) (fun h_66 => ?_)
                      · refine pw_iconst C dX8_isTerm_150 ?_
                        exact pw_zret C hr (by decide +kernel) dX8_isTerm_151 ⟨by rw [show isTm T1 (fun q => obEl q Vs) X = false from by rw [← hq]; rw [hdrop, wfA_cons, wf_cl hpr hqr, show decide (0 ≤ arT T1 (obCar Y) ∧ arT T1 (obCar Y) = obLen (obCdr Y)) = false from decide_eq_false (by rw [har]; omega), Bool.false_and, Bool.false_and, Bool.false_and]]; rfl, hM1.J, hf1⟩
                      · refine pw_aload_n (i := 0) C dX8_isTerm_141 rfl rfl (Or.inr ⟨_, rfl⟩) ?_
                        refine pw_iload C dX8_isTerm_142 rfl ?_
                        have hal : 0 ≤ obLen (obCdr Y) := by have := obLen_ge (obCdr Y); omega
                        refine pw_callV (As := [.int (iZ (f ((i : Nat) : Int)))]) (st := []) C (m_X8_addTermsOf g l hS1 hM1 hpv hal) my_X8_addTermsOf ml_X8_60 (hM1.rec C) rfl ⟨Nat.le_of_ble_eq_true rfl, Nat.le_of_ble_eq_true rfl⟩ ⟨Nat.le_of_ble_eq_true rfl, Nat.le_of_ble_eq_true rfl⟩ rfl (Nat.le_of_ble_eq_true rfl) dX8_isTerm_144 ?_
                        rintro rr w_67 ⟨hfa, hpost⟩
                        by_cases hsz : (L.length : Int) + obLen (obCdr Y) ≤ 120
                        · rw [if_pos hsz] at hpost
                          obtain ⟨rfl, hM2⟩ := hpost
                          refine pw_stk (st' := [.int (iZ 1)]) rfl ?_
                          refine pw_if_ne (tgt := 152) C (by omega) dX8_isTerm_147 (by decide) (fun h_68 => ?_) (fun h_68 => ?_)
                          · refine pw_iinc (lv' := [(0, .ref (A 21)), (1, .int (iZ x)), (2, .int (iZ vz)), (3, .int (iZ ow)), (4, .int (iZ ot)), (5, .int (iZ (((i : Nat) : Int) + 1))), (6, .int (iZ (f ((i : Nat) : Int)))), (7, .int (iZ z_56)), (8, .int (iZ ot))]) C dX8_isTerm_152 rfl (by decide) rfl ?_
                            refine pw_goto (tgt := 8) C dX8_isTerm_155 (by decide) ?_
                            refine pw_sub [0, 1, 2, 3, 4, 5] rfl ?_
                            exact ih (i + 1) (L ++ lsO (obCdr Y)) w_67 (by omega) (by simp only [List.length_append]; omega) (hS1.same (fun k h1 h2 => hfa k (by omega))) hM2 (fun k hk => (hfa k hk).trans (hf1 k hk)) (by rw [← hq, hdrop, List.drop_append_of_le_length (by omega), wfA_app, wfA_cons, szA_app, szA, wf_cl hpr hqr, sz_cl hpr hqr, show decide (0 ≤ arT T1 (obCar Y) ∧ arT T1 (obCar Y) = obLen (obCdr Y)) = true from decide_eq_true (by rw [har]; omega), Bool.true_and, Bool.and_comm (wfA T1 _ (L.drop (i + 1))), show i + 1 + (szA (L.drop (i + 1)) + szA (lsO (obCdr Y))) = i + (1 + szA (lsO (obCdr Y)) + szA (L.drop (i + 1))) from by omega])
                          · exfalso; omega
                        · rw [if_neg hsz] at hpost
                          obtain ⟨rfl, hM2⟩ := hpost
                          refine pw_stk (st' := [.int (iZ 0)]) rfl ?_
                          refine pw_if_ne (tgt := 152) C (by omega) dX8_isTerm_147 (by decide) (fun h_69 => ?_) (fun h_69 => ?_)
                          · exfalso; omega
                          · refine pw_iconst C dX8_isTerm_150 ?_
                            exact pw_zret C hr (by decide +kernel) dX8_isTerm_151 ⟨by rw [show isTm T1 (fun q => obEl q Vs) X = false from by rw [← hq]; rw [hdrop, szA, sz_cl hpr hqr, show decide (i + (1 + szA (lsO (obCdr Y)) + szA (L.drop (i + 1))) ≤ 120) = false from decide_eq_false (by have h1 := szA_len (lsO (obCdr Y)); have h2 := lsO_len hal; have h3 := szA_len (L.drop (i + 1)); rw [List.length_drop] at h3; omega), Bool.and_false]]; rfl, hM2, (fun k hk => (hfa k hk).trans (hf1 k hk))⟩
            · have hvr := h_53
              refine pw_aload_n (i := 0) C dX8_isTerm_45 rfl rfl (Or.inr ⟨_, rfl⟩) ?_
              refine pw_get (j := 0) C cl_X8 fl_X8_15 (by decide) rfl k1 rfl dX8_isTerm_46 ?_
              refine pw_iload C dX8_isTerm_49 rfl ?_
              refine pw_iload_n (i := 2) C dX8_isTerm_51 rfl rfl ?_
              refine pw_callV (As := [.int (iZ (f ((i : Nat) : Int))), .int (iZ vz)]) (st := []) C (vr_isElement hS1 hpv hvz) my_X6_isElement ml_X8_37 (hS1.rec C) rfl ⟨Nat.le_of_ble_eq_true rfl, Nat.le_of_ble_eq_true rfl⟩ ⟨Nat.le_of_ble_eq_true rfl, Nat.le_of_ble_eq_true rfl⟩ rfl (Nat.le_of_ble_eq_true rfl) dX8_isTerm_52 ?_
              rintro _ _ ⟨rfl, rfl⟩
              refine pw_stk (st' := [.int (iZ (b2i (obEl Y Vs)))]) rfl ?_
              refine pw_if_neB (tgt := 152) C dX8_isTerm_55 (by decide) (fun h_70 => ?_) (fun h_70 => ?_)
              · refine pw_iinc (lv' := [(0, .ref (A 21)), (1, .int (iZ x)), (2, .int (iZ vz)), (3, .int (iZ ow)), (4, .int (iZ ot)), (5, .int (iZ (((i : Nat) : Int) + 1))), (6, .int (iZ (f ((i : Nat) : Int))))]) C dX8_isTerm_152 rfl (by decide) rfl ?_
                refine pw_goto (tgt := 8) C dX8_isTerm_155 (by decide) ?_
                refine pw_sub [0, 1, 2, 3, 4, 5] rfl ?_
                exact ih (i + 1) L w1 (by omega) (by omega) hS1 hM1 hf1 (by rw [← hq, hdrop, wfA_cons, szA, (wf_va (T := T1) (vs := fun q => obEl q Vs) hvr).1, (wf_va (T := T1) (vs := fun q => obEl q Vs) hvr).2, show obEl Y Vs = true from h_70, Bool.true_and, show i + 1 + szA (L.drop (i + 1)) = i + (1 + szA (L.drop (i + 1))) from by omega])
              · refine pw_iconst C dX8_isTerm_58 ?_
                exact pw_zret C hr (by decide +kernel) dX8_isTerm_59 ⟨by rw [show isTm T1 (fun q => obEl q Vs) X = false from by rw [← hq]; rw [hdrop, wfA_cons, (wf_va (T := T1) (vs := fun q => obEl q Vs) hvr).1, show obEl Y Vs = false from h_70, Bool.false_and, Bool.false_and]]; rfl, hM1.J, hf1⟩
  refine pw_aload_n (i := 0) C dX8_isTerm_0 rfl rfl (Or.inr ⟨_, rfl⟩) ?_
  refine pw_iload_n (i := 1) C dX8_isTerm_1 rfl rfl ?_
  refine pw_callV (As := [.int (iZ x)]) (st := []) C (tm_startWith g l hS hM hx) my_X8_startWith ml_X8_23 (hM.rec C) rfl ⟨Nat.le_of_ble_eq_true rfl, Nat.le_of_ble_eq_true rfl⟩ ⟨Nat.le_of_ble_eq_true rfl, Nat.le_of_ble_eq_true rfl⟩ rfl (Nat.le_of_ble_eq_true rfl) dX8_isTerm_2 ?_
  rintro _ w_301 ⟨rfl, hM1, hf1⟩
  refine pw_stk (st' := []) rfl ?_
  refine pw_iconst C dX8_isTerm_5 ?_
  refine pw_istore (lv' := [(0, .ref (A 21)), (1, .int (iZ x)), (2, .int (iZ vz)), (3, .int (iZ ow)), (4, .int (iZ ot)), (5, .int (iZ 0))]) C dX8_isTerm_6 (by decide) rfl ?_
  exact loop 120 0 [X] w_301 (by omega) (by simp) (hS.same (fun k h1 h2 => hf1 k (by omega))) hM1 hf1 (by simp [wfA, szA, isTm])

