theorem obEl_p {X P : Ob} (h : obP P = true) : obEl X P = if obCar P = X then true else obEl X (obCdr P) := by cases P <;> first | rfl | cases h
set_option maxRecDepth 100000 in
set_option maxHeartbeats 4000000 in
/-- isIn -/
theorem m_X10_isIn (g : pw_P) (l : Launch) {w : pw_W} {b : Nat} {B : Nat → Nat} {x : Nat → Int} (h0 : w 1000 = (b, some (mdE B x))) {t : Int → Ob} {n : Int} {sN : Nat} {fZ : Int → Int} (hR : RS g w B t n sN fZ) (h7 : x 7 = n) (h10 : x 10 = ((sN : Nat) : Int)) (hK : RK t n) {o : Int} {X : Ob} (ho : Vl t n o X) {p0 : Int} {P : Ob} (hp0 : Vl t n p0 P) (hpl : 0 ≤ obLen P) : pw_M g l yX10_isIn cX10_isIn 4 (some .boolean) { frames := 0, cells := 0, slots := 0, locals := 0 } [.ref b, .int (iZ p0), .int (iZ o)] w (fun r w' => w = w' ∧ r = some (.int (iZ (b2i (obEl X P))))) := by
  refine pw_M.of (by decide) (Nat.le_of_ble_eq_true rfl) rfl ?_
  intro p e s m args below meth c C hr hn
  obtain ⟨fL, fR, fH, fV, l0, l1, l4, l5, ⟨m0, m1, m4, m5⟩, hln⟩ := RS.lens hR
  have hRn := hR.n
  have hor := Vl.rg hR ho
  have loop : ∀ (kk : Nat) (k : Int) (Q : Ob), (obLen Q).toNat = kk → Vl t n k Q → 0 ≤ obLen Q → obEl X Q = obEl X P → pw_G g p l e { frames := 0, cells := 0, slots := 0, locals := 0 } s m args below meth c 4 (pw_Q g below (fun r w' => w = w' ∧ r = some (.int (iZ (b2i (obEl X P))))) args s { frames := 0, cells := 0, slots := 0, locals := 0 }) 0 0 2 [(0, .ref b), (1, .int (iZ p0)), (2, .int (iZ o)), (3, .int (iZ k))] [] w := by
    intro kk
    induction kk with
    | zero =>
      intro k Q hk hy hl hq
      have hyr := Vl.rg hR hy
      refine pw_iload_n (i := 3) C dX10_isIn_2 rfl rfl ?_
      refine pw_if_eq (tgt := 28) C (by omega) dX10_isIn_3 (by decide) (fun h_11 => ?_) (fun h_11 => ?_)
      · refine pw_iconst C dX10_isIn_28 ?_
        exact pw_zret C hr (by decide +kernel) dX10_isIn_29 ⟨rfl, by rw [← hq, show Q = oNil from (RS.inj hR hy hK.nil).mp (by omega)]; rfl⟩
      · have hp : obP Q = true := by
          cases hb : obP Q with
          | true => rfl
          | false => exact absurd ((RS.inj hR hy hK.nil).mpr (obLen_np hb hl).1) (by omega)
        have hcc := (hln _ _ hy).1 hp
        have hr1 := Vl.rg hR hcc.1
        have hr2 := Vl.rg hR hcc.2
        refine pw_aload_n (i := 0) C dX10_isIn_6 rfl rfl (Or.inr ⟨_, rfl⟩) ?_
        refine pw_get (j := 0) C cl_X10 fl_X10_8 (by decide) rfl h0 rfl dX10_isIn_7 ?_
        refine pw_stk (st' := [.ref (B 0)]) rfl ?_
        refine pw_iload_n (i := 3) C dX10_isIn_10 rfl rfl ?_
        have g_12 := m0 k
        refine pw_iald C l0 ⟨by omega, by omega, by omega⟩ dX10_isIn_11 ?_
        refine pw_iload_n (i := 2) C dX10_isIn_12 rfl rfl ?_
        refine pw_icmp_ne (tgt := 18) C (by omega) (by omega) dX10_isIn_13 (by decide) (fun h_13 => ?_) (fun h_13 => ?_)
        · refine pw_aload_n (i := 0) C dX10_isIn_18 rfl rfl (Or.inr ⟨_, rfl⟩) ?_
          refine pw_get (j := 1) C cl_X10 fl_X10_14 (by decide) rfl h0 rfl dX10_isIn_19 ?_
          refine pw_stk (st' := [.ref (B 1)]) rfl ?_
          refine pw_iload_n (i := 3) C dX10_isIn_22 rfl rfl ?_
          have g_14 := m1 k
          refine pw_iald C l1 ⟨by omega, by omega, by omega⟩ dX10_isIn_23 ?_
          refine pw_istore_n (i := 3) (lv' := [(0, .ref b), (1, .int (iZ p0)), (2, .int (iZ o)), (3, .int (iZ (fR k)))]) C dX10_isIn_24 rfl (by decide) rfl ?_
          refine pw_goto (tgt := 2) C dX10_isIn_25 (by decide) ?_
          exfalso; have := obLen_cdr hp hl; omega
        · refine pw_iconst C dX10_isIn_16 ?_
          exact pw_zret C hr (by decide +kernel) dX10_isIn_17 ⟨rfl, by rw [← hq, obEl_p hp, if_pos ((RS.inj hR hcc.1 ho).mp (by omega))]; rfl⟩
    | succ kk ih =>
      intro k Q hk hy hl hq
      have hyr := Vl.rg hR hy
      refine pw_iload_n (i := 3) C dX10_isIn_2 rfl rfl ?_
      refine pw_if_eq (tgt := 28) C (by omega) dX10_isIn_3 (by decide) (fun h_51 => ?_) (fun h_51 => ?_)
      · refine pw_iconst C dX10_isIn_28 ?_
        exact pw_zret C hr (by decide +kernel) dX10_isIn_29 ⟨rfl, by rw [← hq, show Q = oNil from (RS.inj hR hy hK.nil).mp (by omega)]; rfl⟩
      · have hp : obP Q = true := by
          cases hb : obP Q with
          | true => rfl
          | false => exact absurd ((RS.inj hR hy hK.nil).mpr (obLen_np hb hl).1) (by omega)
        have hcc := (hln _ _ hy).1 hp
        have hr1 := Vl.rg hR hcc.1
        have hr2 := Vl.rg hR hcc.2
        refine pw_aload_n (i := 0) C dX10_isIn_6 rfl rfl (Or.inr ⟨_, rfl⟩) ?_
        refine pw_get (j := 0) C cl_X10 fl_X10_8 (by decide) rfl h0 rfl dX10_isIn_7 ?_
        refine pw_stk (st' := [.ref (B 0)]) rfl ?_
        refine pw_iload_n (i := 3) C dX10_isIn_10 rfl rfl ?_
        have g_52 := m0 k
        refine pw_iald C l0 ⟨by omega, by omega, by omega⟩ dX10_isIn_11 ?_
        refine pw_iload_n (i := 2) C dX10_isIn_12 rfl rfl ?_
        refine pw_icmp_ne (tgt := 18) C (by omega) (by omega) dX10_isIn_13 (by decide) (fun h_53 => ?_) (fun h_53 => ?_)
        · refine pw_aload_n (i := 0) C dX10_isIn_18 rfl rfl (Or.inr ⟨_, rfl⟩) ?_
          refine pw_get (j := 1) C cl_X10 fl_X10_14 (by decide) rfl h0 rfl dX10_isIn_19 ?_
          refine pw_stk (st' := [.ref (B 1)]) rfl ?_
          refine pw_iload_n (i := 3) C dX10_isIn_22 rfl rfl ?_
          have g_54 := m1 k
          refine pw_iald C l1 ⟨by omega, by omega, by omega⟩ dX10_isIn_23 ?_
          refine pw_istore_n (i := 3) (lv' := [(0, .ref b), (1, .int (iZ p0)), (2, .int (iZ o)), (3, .int (iZ (fR k)))]) C dX10_isIn_24 rfl (by decide) rfl ?_
          refine pw_goto (tgt := 2) C dX10_isIn_25 (by decide) ?_
          exact ih _ (obCdr Q) (by have := obLen_cdr hp hl; omega) hcc.2 (obLen_cdr hp hl).2 (by rw [← hq, obEl_p hp, if_neg (fun e => absurd ((RS.inj hR hcc.1 ho).mpr e) (by omega))])
        · refine pw_iconst C dX10_isIn_16 ?_
          exact pw_zret C hr (by decide +kernel) dX10_isIn_17 ⟨rfl, by rw [← hq, obEl_p hp, if_pos ((RS.inj hR hcc.1 ho).mp (by omega))]; rfl⟩
  refine pw_iload_n (i := 1) C dX10_isIn_0 rfl rfl ?_
  refine pw_istore_n (i := 3) (lv' := [(0, .ref b), (1, .int (iZ p0)), (2, .int (iZ o)), (3, .int (iZ p0))]) C dX10_isIn_1 rfl (by decide) rfl ?_
  exact loop (obLen P).toNat p0 P rfl hp0 hpl rfl

set_option maxRecDepth 100000 in
set_option maxHeartbeats 4000000 in
/-- hasOnly -/
theorem m_X10_hasOnly (g : pw_P) (l : Launch) {w : pw_W} {b : Nat} {B : Nat → Nat} {x : Nat → Int} (h0 : w 1000 = (b, some (mdE B x))) {t : Int → Ob} {n : Int} {sN : Nat} {fZ : Int → Int} (hR : RS g w B t n sN fZ) (h7 : x 7 = n) (h10 : x 10 = ((sN : Nat) : Int)) (hK : RK t n) {o : Int} {X : Ob} (ho : Vl t n o X) {p0 : Int} {P : Ob} (hp0 : Vl t n p0 P) (hpl : 0 ≤ obLen P) {T1 : List Dn} {ws : Ob → Bool} {fw fi0 : Int → Int} (f1 : w 1049 = (B 48, some (AI g 400 fw))) (f2 : ∀ j, inI (fw j)) (hi1 : w 1051 = (B 50, some (AI g 130 fi0))) (hi2 : ∀ j, inI (fi0 j)) (hwf : (wf2 T1 ws X).1 = true) (hsz : (sz2 X).1 ≤ 120) : pw_M g l yX10_hasOnly cX10_hasOnly 4 (some .boolean) { frames := 4, cells := 0, slots := 0, locals := 91 } [.ref b, .int (iZ o), .int (iZ p0)] w (fun r w' => r = some (.int (iZ (b2i (vr2 (fun q => obEl q P) X).1))) ∧ (∃ v' u' fw' fi', w' 1000 = (b, some (mdE B (va_up (va_up x 49 v') 51 u'))) ∧ w' 1049 = (B 48, some (AI g 400 fw')) ∧ (∀ j, inI (fw' j)) ∧ w' 1051 = (B 50, some (AI g 130 fi')) ∧ ∀ j, inI (fi' j)) ∧ ∀ k, (k ≠ 1000 ∧ k ≠ 1049 ∧ k ≠ 1051) → w' k = w k) := by
  refine pw_M.of (by decide) (Nat.le_of_ble_eq_true rfl) rfl ?_
  intro p e s m args below meth c C hr hn
  have hRn := hR.n
  have hor := Vl.rg hR ho
  have hpr := Vl.rg hR hp0
  refine pw_aload_n (i := 0) C dX10_hasOnly_0 rfl rfl (Or.inr ⟨_, rfl⟩) ?_
  refine pw_iload_n (i := 1) C dX10_hasOnly_1 rfl rfl ?_
  refine pw_callV (As := [.int (iZ o)]) (st := []) C (m_X10_variablesOf g l h0 hR h7 h10 hK ho f1 f2 hi1 hi2 hwf hsz) my_X10_variablesOf ml_X10_414 (pw_rec.of C h0 cl_X10.1) rfl ⟨Nat.le_of_ble_eq_true rfl, Nat.le_of_ble_eq_true rfl⟩ ⟨by (try dsimp only); omega, by (try dsimp only); omega⟩ rfl (Nat.le_of_ble_eq_true rfl) dX10_hasOnly_2 ?_
  rintro _ w1 ⟨rfl, ⟨v1, fw1, I, y0, y49, g49, ⟨fi, y51, g51, hI⟩, hIl, hall⟩, hf1⟩
  refine pw_stk (st' := []) rfl ?_
  refine pw_iconst C dX10_hasOnly_5 ?_
  refine pw_istore_n (i := 3) (lv' := [(0, .ref b), (1, .int (iZ o)), (2, .int (iZ p0)), (3, .int (iZ 0))]) C dX10_hasOnly_6 rfl (by decide) rfl ?_
  have loop : ∀ (kk k : Nat), k + kk = I.length → (I.drop k).all (fun q => obEl q P) = (vr2 (fun q => obEl q P) X).1 → pw_G g p l e { frames := 4, cells := 0, slots := 0, locals := 91 } s m args below meth c 4 (pw_Q g below (fun r w' => r = some (.int (iZ (b2i (vr2 (fun q => obEl q P) X).1))) ∧ (∃ v' u' fw' fi', w' 1000 = (b, some (mdE B (va_up (va_up x 49 v') 51 u'))) ∧ w' 1049 = (B 48, some (AI g 400 fw')) ∧ (∀ j, inI (fw' j)) ∧ w' 1051 = (B 50, some (AI g 130 fi')) ∧ ∀ j, inI (fi' j)) ∧ ∀ k, (k ≠ 1000 ∧ k ≠ 1049 ∧ k ≠ 1051) → w' k = w k) args s { frames := 4, cells := 0, slots := 0, locals := 91 }) 0 0 7 [(0, .ref b), (1, .int (iZ o)), (2, .int (iZ p0)), (3, .int (iZ ((k : Nat) : Int)))] [] w1 := by
    intro kk
    induction kk with
    | zero =>
      intro k hk hq
      refine pw_iload_n (i := 3) C dX10_hasOnly_7 rfl rfl ?_
      refine pw_aload_n (i := 0) C dX10_hasOnly_8 rfl rfl (Or.inr ⟨_, rfl⟩) ?_
      refine pw_get (j := 51) C cl_X10 fl_X10_353 (by decide) rfl y0 rfl dX10_hasOnly_9 ?_
      refine pw_stk (st' := [.int (iZ ((I.length : Nat) : Int)), .int (iZ ((k : Nat) : Int))]) rfl ?_
      refine pw_icmp_ge (tgt := 37) C (by omega) (by omega) dX10_hasOnly_12 (by decide) (fun h_11 => ?_) (fun h_11 => ?_)
      · refine pw_iconst C dX10_hasOnly_37 ?_
        exact pw_zret C hr (by decide +kernel) dX10_hasOnly_38 ⟨by rw [← hq, show I.drop k = [] from List.drop_eq_nil_iff.mpr (by omega)]; rfl, ⟨v1, _, fw1, fi, y0, y49, g49, y51, g51⟩, hf1⟩
      · exfalso; omega
    | succ kk ih =>
      intro k hk hq
      refine pw_iload_n (i := 3) C dX10_hasOnly_7 rfl rfl ?_
      refine pw_aload_n (i := 0) C dX10_hasOnly_8 rfl rfl (Or.inr ⟨_, rfl⟩) ?_
      refine pw_get (j := 51) C cl_X10 fl_X10_353 (by decide) rfl y0 rfl dX10_hasOnly_9 ?_
      refine pw_stk (st' := [.int (iZ ((I.length : Nat) : Int)), .int (iZ ((k : Nat) : Int))]) rfl ?_
      refine pw_icmp_ge (tgt := 37) C (by omega) (by omega) dX10_hasOnly_12 (by decide) (fun h_51 => ?_) (fun h_51 => ?_)
      · exfalso; omega
      · refine pw_aload_n (i := 0) C dX10_hasOnly_15 rfl rfl (Or.inr ⟨_, rfl⟩) ?_
        refine pw_iload_n (i := 2) C dX10_hasOnly_16 rfl rfl ?_
        refine pw_aload_n (i := 0) C dX10_hasOnly_17 rfl rfl (Or.inr ⟨_, rfl⟩) ?_
        refine pw_get (j := 50) C cl_X10 fl_X10_107 (by decide) rfl y0 rfl dX10_hasOnly_18 ?_
        refine pw_stk (st' := [.ref (B 50), .int (iZ p0), .ref b]) rfl ?_
        refine pw_iload_n (i := 3) C dX10_hasOnly_21 rfl rfl ?_
        have g_52 := g51 ((k : Nat) : Int)
        refine pw_iald C y51 ⟨by omega, by omega, by omega⟩ dX10_hasOnly_22 ?_
        have R_53 := hR.same (w' := w1) (fun k hk => (hf1 k (by omega)))
        obtain ⟨u, hu⟩ : ∃ u, I[k]? = some u := ⟨_, List.getElem?_eq_getElem (by omega)⟩
        have huv := VlsI.mem k hI hu
        rw [Int.zero_add] at huv
        have hdk := drop_one hu
        refine pw_callV (As := [.int (iZ p0), .int (iZ (fi ((k : Nat) : Int)))]) (st := []) C (m_X10_isIn g l y0 R_53 h7 h10 hK huv hp0 hpl) my_X10_isIn ml_X10_417 (pw_rec.of C y0 cl_X10.1) rfl ⟨Nat.le_of_ble_eq_true rfl, Nat.le_of_ble_eq_true rfl⟩ ⟨by (try dsimp only); omega, by (try dsimp only); omega⟩ rfl (Nat.le_of_ble_eq_true rfl) dX10_hasOnly_23 ?_
        rintro _ _ ⟨rfl, rfl⟩
        refine pw_stk (st' := [.int (iZ (b2i (obEl u P)))]) rfl ?_
        refine pw_if_neB (tgt := 31) C dX10_hasOnly_26 (by decide) (fun h_54 => ?_) (fun h_54 => ?_)
        · refine pw_iinc (lv' := [(0, .ref b), (1, .int (iZ o)), (2, .int (iZ p0)), (3, .int (iZ (((k : Nat) : Int) + 1)))]) C dX10_hasOnly_31 rfl (by decide) rfl ?_
          refine pw_goto (tgt := 7) C dX10_hasOnly_34 (by decide) ?_
          rw [show ((k : Nat) : Int) + 1 = ((k + 1 : Nat) : Int) by omega]
          exact ih (k + 1) (by omega) (by rw [← hq, hdk, List.all_cons, h_54, Bool.true_and])
        · refine pw_iconst C dX10_hasOnly_29 ?_
          exact pw_zret C hr (by decide +kernel) dX10_hasOnly_30 ⟨by rw [← hq, hdk, List.all_cons, h_54, Bool.false_and]; rfl, ⟨v1, _, fw1, fi, y0, y49, g49, y51, g51⟩, hf1⟩
  exact loop I.length 0 (by omega) (by rw [List.drop_zero]; exact hall _)

set_option maxRecDepth 100000 in
set_option maxHeartbeats 4000000 in
/-- tellOut -/
theorem m_X10_tellOut (g : pw_P) (l : Launch) {w : pw_W} {b : Nat} {B : Nat → Nat} {x : Nat → Int} (h0 : w 1000 = (b, some (mdE B x))) {t : Int → Ob} {n : Int} {sN : Nat} {fZ : Int → Int} (hR : RS g w B t n sN fZ) (h7 : x 7 = n) (h10 : x 10 = ((sN : Nat) : Int)) (hK : RK t n) {o v : Int} {X : Ob} {L : List Int} {fk0 : Int → Int} (ho : Vl t n o X) (hO : MOut g w B v L) (a18 : w 1019 = (B 18, some (AI g 4000 fk0))) (u18 : ∀ j, inI (fk0 j)) : pw_M g l yX10_tellOut cX10_tellOut 2 none { frames := 3, cells := 0, slots := 0, locals := 67 } [.ref b, .int (iZ o)] w (fun r w' => r = none ∧ (∃ v' k' fk', w' 1000 = (b, some (mdE B (va_up (va_up x 15 v') 19 k'))) ∧ MOut g w' B v' (otx X).1 ∧ w' 1019 = (B 18, some (AI g 4000 fk')) ∧ ∀ j, inI (fk' j)) ∧ ∀ k, (k ≠ 1000 ∧ k ≠ 1015 ∧ k ≠ 1019) → w' k = w k) := by
  refine pw_M.of (by decide) (Nat.le_of_ble_eq_true rfl) rfl ?_
  intro p e s m args below meth c C hr hn
  have hor := Vl.rg hR ho
  refine pw_aload_n (i := 0) C dX10_tellOut_0 rfl rfl (Or.inr ⟨_, rfl⟩) ?_
  refine pw_iconst C dX10_tellOut_1 ?_
  refine pw_put (j := 15) C cl_X10 fl_X10_265 (by decide) rfl rfl rfl rfl rfl h0 (Nat.le_of_ble_eq_true rfl) dX10_tellOut_2 (fun w_3 k_1 o_2 => ?_)
  have k_4 : w_3 1000 = (b, some (mdE B (va_up x 15 0))) := k_1
  refine pw_aload_n (i := 0) C dX10_tellOut_5 rfl rfl (Or.inr ⟨_, rfl⟩) ?_
  refine pw_iload_n (i := 1) C dX10_tellOut_6 rfl rfl ?_
  have R_5 := hR.same (w' := w_3) (fun k hk => (o_2 k (by omega)))
  have hO0 : MOut g w_3 B 0 [] := by obtain ⟨fo, q1, q2, q3⟩ := hO; exact ⟨fo, ((o_2 1015 (by omega))).trans q1, q2, ⟨rfl, fun j hj => absurd hj (by omega)⟩⟩
  refine pw_callV (As := [.int (iZ o)]) (st := []) C (m_X10_tellObject g l k_4 R_5 h7 h10 hK ho (v := 0) rfl hO0 (((o_2 1019 (by omega))).trans a18) u18) my_X10_tellObject ml_X10_420 (pw_rec.of C k_4 cl_X10.1) rfl ⟨Nat.le_of_ble_eq_true rfl, Nat.le_of_ble_eq_true rfl⟩ ⟨by (try dsimp only); omega, by (try dsimp only); omega⟩ rfl (Nat.le_of_ble_eq_true rfl) dX10_tellOut_7 ?_
  rintro _ w2 ⟨rfl, ⟨v2, k2, fk2, e2, hO2, e19, g19⟩, ho2⟩
  refine pw_stk (st' := []) rfl ?_
  exact pw_vret C hr dX10_tellOut_10 ⟨rfl, ⟨v2, k2, fk2, by rw [e2]; rfl, hO2, e19, g19⟩, fun k hk => (ho2 k (by omega)).trans (o_2 k (by omega))⟩

