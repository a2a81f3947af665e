theorem DsT.get {t : Int → Ob} {n : Int} : ∀ {ds : List Df} {T : List Dn} {j : Nat} {d : Df}, DsT t n ds T → ds[j]? = some d → ∃ D, T[j]? = some D ∧ Vl t n d.1 D.1 ∧ Vl t n d.2.2.2 D.2.2
  | d :: ds, D :: T, 0, d', h, hj => by cases hj; exact ⟨D, rfl, h.1, h.2.2.2.1⟩
  | d :: ds, D :: T, j + 1, d', h, hj => by
    obtain ⟨Q, h1, h2⟩ := DsT.get (j := j) h.2.2.2.2 (by simpa using hj)
    exact ⟨Q, by simpa using h1, h2⟩
  | [], _, _, _, _, hj => by simp at hj
  | _ :: _, [], _, _, h, _ => h.elim
def TSz (T : List Dn) : Prop := ∀ d ∈ T, (sz2 d.2.2).1 ≤ 120
theorem any_drop {T : List Dn} {f : Dn → Bool} {j : Nat} {D : Dn} (h : T[j]? = some D) : (T.drop j).any f = (f D || (T.drop (j + 1)).any f) := by
  obtain ⟨hj, rfl⟩ := List.getElem?_eq_some_iff.mp h
  rw [List.drop_eq_getElem_cons hj, List.any_cons]
set_option maxRecDepth 100000 in
set_option maxHeartbeats 4000000 in
/-- undo -/
theorem m_X1_undo (g : pw_P) (l : Launch) {w : pw_W} {A : Nat → Nat} {cap : Nat} {t : Int → Ob} {n kp : Int} (hS : SB g w (A 2) cap t n) (hC : w 20 = (A 20, some (cmE A (-1) kp))) {D : Nat → Nat} {ds : List Df} {T : List Dn} (hF : FnI g w A D ds) (hDk : DsT t kp ds T) (hkp : 24 ≤ kp ∧ kp ≤ n) (hM : TmJ g w A) {fu nk : Nat} (hI : EvI g w A fu 0 0 nk) (hT : TOk T) (hTs : TSz T) : pw_M g l yX1_undo cX1_undo 4 (some .int) { frames := 5, cells := 0, slots := 0, locals := 109 } [.ref (A 20)] w (fun r w' => CmP g w w' A cap t n fu kp 0 ((((undoC T).1, none, 0, 0, nk), (undoC T).2)) r) := by
  refine pw_M.of (by decide) (Nat.le_of_ble_eq_true rfl) rfl ?_
  intro p e s m args below meth c C hr hn
  have hn0 := hS.n
  have hF40 := hF.len
  rcases List.eq_nil_or_concat ds with hde | ⟨ds0, d0, hde⟩
  · subst hde
    have hTe : T = [] := by have := hDk.len; exact List.eq_nil_of_length_eq_zero (by simpa using this.symm)
    obtain ⟨Fq, hc16, -⟩ := id hF
    have hc16 : w 16 = (A 16, some (OB 4 [.ref (A 17), .int (iZ 0)])) := hc16
    refine pw_aload_n (i := 0) C dX1_undo_0 rfl rfl (Or.inr ⟨_, rfl⟩) ?_
    refine pw_get (j := 1) C cl_X1 fl_X1_15 (by decide) rfl hC rfl dX1_undo_1 ?_
    refine pw_aload_n (i := 0) C dX1_undo_4 rfl rfl (Or.inr ⟨_, rfl⟩) ?_
    refine pw_get (j := 1) C cl_X1 fl_X1_15 (by decide) rfl hC rfl dX1_undo_5 ?_
    refine pw_getN (j := 1) C cl_X4 fn_X1_164 (by decide) rfl hc16 rfl dX1_undo_8 ?_
    refine pw_iconst C dX1_undo_11 ?_
    refine pw_isub C dX1_undo_12 ?_
    refine pw_callV (As := [.int (iZ (0 - 1))]) (st := []) C (m_X4_at g l hF (x := (0 - 1)) (by omega)) my_X4_at ml_X1_165 (hF.rec C) rfl ⟨Nat.le_of_ble_eq_true rfl, Nat.le_of_ble_eq_true rfl⟩ ⟨by (try dsimp only); omega, by (try dsimp only); omega⟩ rfl (Nat.le_of_ble_eq_true rfl) dX1_undo_13 ?_
    rintro _ _ ⟨rfl, rfl⟩
    rw [if_neg (by simp)]
    refine pw_stk (st' := [.null]) rfl ?_
    refine pw_astore_n (i := 1) (lv' := [(0, .ref (A 20)), (1, .null)]) C dX1_undo_16 rfl (by decide) (Or.inl rfl) rfl ?_
    refine pw_aload_n (i := 1) C dX1_undo_17 rfl rfl (Or.inl rfl) ?_
    refine pw_ifnonnullZ C dX1_undo_18 ?_
    refine pw_iconst C dX1_undo_21 ?_
    refine pw_wide 0 0 (by (try dsimp only); omega) (by (try dsimp only); omega) ?_
    refine pw_iret C hr dX1_undo_22 ?_
    rw [hTe]; show CmP _ _ _ _ _ _ _ _ _ _ ((3, none, 0, 0, nk), []) _
    exact ⟨t, n, -1, kp, D, [], rfl, hS.same (fun k h1 h2 => rfl), Ext.rf, by omega, hF, trivial, ⟨hkp.1, hkp.2, Or.inl rfl⟩, hI.same (fun k h => (rfl)), hM.same (fun k h => rfl), hC, rfl, fun k hk => (rfl)⟩
  · rw [List.concat_eq_append] at hde
    subst hde
    obtain ⟨T0, D0, hTe, hDc, hd0k⟩ := DsT.con hDk
    have hd0n : Vl t n d0.1 D0.1 := hd0k.ext ⟨hkp.2, fun _ _ _ => rfl⟩
    have hlen : (ds0 ++ [d0]).length = ds0.length + 1 := by simp
    have hTd : ds0.length = T0.length := hDc.len
    have loop : ∀ (kk : Nat) (w1 : pw_W) (j : Nat), j + kk = ds0.length → SB g w1 (A 2) cap t n → FnI g w1 A D (ds0 ++ [d0]) → TmJ g w1 A → w1 20 = (A 20, some (cmE A (-1) kp)) → (T0.drop j).any (fun q => (cl2 D0.1 q.2.2).1) = T0.any (fun q => (cl2 D0.1 q.2.2).1) → (∀ k, (k < 21 ∨ 22 < k) → w1 k = w k) → pw_G g p l e { frames := 5, cells := 0, slots := 0, locals := 109 } s m args below meth c 4 (pw_Q g below (fun r w' => CmP g w w' A cap t n fu kp 0 ((((undoC T).1, none, 0, 0, nk), (undoC T).2)) r) args s { frames := 5, cells := 0, slots := 0, locals := 109 }) 0 0 25 [(0, .ref (A 20)), (1, .ref (D ds0.length)), (2, .int (iZ ((j : Nat) : Int)))] [] w1 := by
      intro kk
      induction kk with
      | zero =>
        intro w1 j hk hS1 hF1 hM1 hC1 hq hf1
        have hjj : j = ds0.length := by omega
        subst hjj
        obtain ⟨Fq, hc16, -⟩ := id hF1
        obtain ⟨hl1, hl2⟩ := hF1.get (j := ds0.length) (d := d0) (by simp)
        have hd0i := hl2.1
        refine pw_iload_n (i := 2) C dX1_undo_25 rfl rfl ?_
        refine pw_aload_n (i := 0) C dX1_undo_26 rfl rfl (Or.inr ⟨_, rfl⟩) ?_
        refine pw_get (j := 1) C cl_X1 fl_X1_15 (by decide) rfl hC1 rfl dX1_undo_27 ?_
        refine pw_getN (j := 1) C cl_X4 fn_X1_164 (by decide) rfl hc16 rfl dX1_undo_30 ?_
        refine pw_iconst C dX1_undo_33 ?_
        refine pw_isub C dX1_undo_34 ?_
        refine pw_icmp_ge (tgt := 77) C (by omega) (by omega) dX1_undo_35 (by decide) (fun h_11 => ?_) (fun h_11 => ?_)
        · refine pw_aload_n (i := 0) C dX1_undo_77 rfl rfl (Or.inr ⟨_, rfl⟩) ?_
          refine pw_get (j := 1) C cl_X1 fl_X1_15 (by decide) rfl hC1 rfl dX1_undo_78 ?_
          refine pw_callV (As := []) (st := []) C (m_X4_removeLast g l hF1) my_X4_removeLast ml_X1_174 (hF1.rec C) rfl ⟨Nat.le_of_ble_eq_true rfl, Nat.le_of_ble_eq_true rfl⟩ ⟨by (try dsimp only); omega, by (try dsimp only); omega⟩ rfl (Nat.le_of_ble_eq_true rfl) dX1_undo_81 ?_
          rintro _ w_12 ⟨rfl, hFr, o_13⟩
          have S_14 := hS1.same (w' := w_12) (fun k h1 h2 => (o_13 k (by omega)))
          have M_15 := hM1.same (w' := w_12) (fun k h => (o_13 k (by omega)))
          refine pw_stk (st' := []) rfl ?_
          refine pw_iconst C dX1_undo_84 ?_
          have hany : T0.any (fun q => (cl2 D0.1 q.2.2).1) = false := by rw [← hq, hTd, List.drop_length]; rfl
          have c_16 := (o_13 20 (by omega)).trans hC1
          refine pw_wide 0 0 (by (try dsimp only); omega) (by (try dsimp only); omega) ?_
          refine pw_iret C hr dX1_undo_85 ?_
          rw [show undoC T = (0, T0) from by unfold undoC; rw [hTe, List.getLast?_append]; simp only [List.getLast?_singleton, Option.some_or, List.dropLast_concat]; rw [hany]; rfl]
          exact ⟨t, n, -1, kp, D, ds0, rfl, S_14.same (fun k h1 h2 => rfl), Ext.rf, by omega, hFr.same (fun k h => rfl), hDc, ⟨hkp.1, hkp.2, Or.inl rfl⟩, hI.same (fun k h => (((o_13 k (by omega))).trans (hf1 k (by omega)))), M_15.same (fun k h => rfl), c_16, rfl, fun k hk => (((o_13 k (by omega))).trans (hf1 k (by omega)))⟩
        · exfalso; omega
      | succ kk ih =>
        intro w1 j hk hS1 hF1 hM1 hC1 hq hf1
        obtain ⟨Fq, hc16, -⟩ := id hF1
        obtain ⟨hl1, hl2⟩ := hF1.get (j := ds0.length) (d := d0) (by simp)
        have hd0i := hl2.1
        obtain ⟨q, hdq⟩ : ∃ q, ds0[j]? = some q := ⟨_, List.getElem?_eq_getElem (by omega)⟩
        obtain ⟨hj1, hj2⟩ := hF1.get (j := j) (d := q) (by rw [List.getElem?_append_left (by omega)]; exact hdq)
        obtain ⟨Q, hTj, hq1, hqk⟩ := DsT.get hDc hdq
        have hqv : Vl t n q.2.2.2 Q.2.2 := hqk.ext ⟨hkp.2, fun _ _ _ => rfl⟩
        have hQm : Q ∈ T := by rw [hTe]; exact List.mem_append_left _ (List.mem_of_getElem? hTj)
        refine pw_iload_n (i := 2) C dX1_undo_25 rfl rfl ?_
        refine pw_aload_n (i := 0) C dX1_undo_26 rfl rfl (Or.inr ⟨_, rfl⟩) ?_
        refine pw_get (j := 1) C cl_X1 fl_X1_15 (by decide) rfl hC1 rfl dX1_undo_27 ?_
        refine pw_getN (j := 1) C cl_X4 fn_X1_164 (by decide) rfl hc16 rfl dX1_undo_30 ?_
        refine pw_iconst C dX1_undo_33 ?_
        refine pw_isub C dX1_undo_34 ?_
        refine pw_icmp_ge (tgt := 77) C (by omega) (by omega) dX1_undo_35 (by decide) (fun h_41 => ?_) (fun h_41 => ?_)
        · exfalso; omega
        · refine pw_aload_n (i := 0) C dX1_undo_38 rfl rfl (Or.inr ⟨_, rfl⟩) ?_
          refine pw_get (j := 1) C cl_X1 fl_X1_15 (by decide) rfl hC1 rfl dX1_undo_39 ?_
          refine pw_iload_n (i := 2) C dX1_undo_42 rfl rfl ?_
          refine pw_callV (As := [.int (iZ ((j : Nat) : Int))]) (st := []) C (m_X4_at g l hF1 (x := ((j : Nat) : Int)) (by omega)) my_X4_at ml_X1_165 (hF1.rec C) rfl ⟨Nat.le_of_ble_eq_true rfl, Nat.le_of_ble_eq_true rfl⟩ ⟨by (try dsimp only); omega, by (try dsimp only); omega⟩ rfl (Nat.le_of_ble_eq_true rfl) dX1_undo_43 ?_
          rintro _ _ ⟨rfl, rfl⟩
          rw [if_pos ⟨by omega, by omega⟩, Int.toNat_natCast]
          refine pw_stk (st' := [.ref (D j)]) rfl ?_
          refine pw_astore_n (i := 3) (lv' := [(0, .ref (A 20)), (1, .ref (D ds0.length)), (2, .int (iZ ((j : Nat) : Int))), (3, .ref (D j))]) C dX1_undo_46 rfl (by decide) (Or.inr ⟨_, rfl⟩) rfl ?_
          refine pw_aload_n (i := 3) C dX1_undo_47 rfl rfl (Or.inr ⟨_, rfl⟩) ?_
          refine pw_ifnullR C dX1_undo_48 ?_
          refine pw_aload_n (i := 0) C dX1_undo_51 rfl rfl (Or.inr ⟨_, rfl⟩) ?_
          refine pw_get (j := 3) C cl_X1 fl_X1_28 (by decide) rfl hC1 rfl dX1_undo_52 ?_
          refine pw_aload_n (i := 1) C dX1_undo_55 rfl rfl (Or.inr ⟨_, rfl⟩) ?_
          refine pw_getN (j := 0) C cl_X2 fn_X1_168 (by decide) rfl hl1 rfl dX1_undo_56 ?_
          refine pw_aload_n (i := 3) C dX1_undo_59 rfl rfl (Or.inr ⟨_, rfl⟩) ?_
          refine pw_getN (j := 3) C cl_X2 fn_X1_158 (by decide) rfl hj1 rfl dX1_undo_60 ?_
          refine pw_callV (As := [.int (iZ d0.1), .int (iZ q.2.2.2)]) (st := []) C (m_X8_isCalled g l hS1 hM1 hd0n hqv (hT Q hQm).2.2.2 (hTs Q hQm)) my_X8_isCalled ml_X1_171 (hM1.rec C) rfl ⟨Nat.le_of_ble_eq_true rfl, Nat.le_of_ble_eq_true rfl⟩ ⟨by (try dsimp only); omega, by (try dsimp only); omega⟩ rfl (Nat.le_of_ble_eq_true rfl) dX1_undo_63 ?_
          rintro _ w_43 ⟨rfl, M_44, o_45⟩
          have S_46 := hS1.same (w' := w_43) (fun k h1 h2 => o_45 k (by omega))
          have F_47 := hF1.same (w' := w_43) (fun k h => o_45 k (by omega))
          refine pw_stk (st' := [.int (iZ (b2i ((cl2 D0.1 Q.2.2).1)))]) rfl ?_
          refine pw_if_eqB (tgt := 71) C dX1_undo_66 (by decide) (fun h_48 => ?_) (fun h_48 => ?_)
          · refine pw_iinc (lv' := [(0, .ref (A 20)), (1, .ref (D ds0.length)), (2, .int (iZ (((j : Nat) : Int) + 1))), (3, .ref (D j))]) C dX1_undo_71 rfl (by decide) rfl ?_
            refine pw_goto (tgt := 25) C dX1_undo_74 (by decide) ?_
            refine pw_sub [0, 1, 2] rfl ?_
            have c_49 := (o_45 20 (by omega)).trans hC1
            rw [show ((j : Nat) : Int) + 1 = ((j + 1 : Nat) : Int) by omega]
            exact ih w_43 (j + 1) (by omega) S_46 F_47 M_44 c_49 (by rw [← hq, any_drop hTj]; simp only [h_48, Bool.false_or]) (fun k hk => ((o_45 k (by omega))).trans (hf1 k hk))
          · refine pw_iconst C dX1_undo_69 ?_
            have hany : T0.any (fun q => (cl2 D0.1 q.2.2).1) = true := by rw [← hq, any_drop hTj]; simp only [h_48, Bool.true_or]
            have c_50 := (o_45 20 (by omega)).trans hC1
            refine pw_wide 0 0 (by (try dsimp only); omega) (by (try dsimp only); omega) ?_
            refine pw_iret C hr dX1_undo_70 ?_
            rw [show undoC T = (3, T) from by unfold undoC; rw [hTe, List.getLast?_append]; simp only [List.getLast?_singleton, Option.some_or, List.dropLast_concat]; rw [hany]; rfl]
            exact ⟨t, n, -1, kp, D, (ds0 ++ [d0]), rfl, S_46.same (fun k h1 h2 => rfl), Ext.rf, by omega, F_47.same (fun k h => rfl), hDk, ⟨hkp.1, hkp.2, Or.inl rfl⟩, hI.same (fun k h => (((o_45 k (by omega))).trans (hf1 k (by omega)))), M_44.same (fun k h => rfl), c_50, rfl, fun k hk => (((o_45 k (by omega))).trans (hf1 k (by omega)))⟩
    obtain ⟨Fq, hc160, -⟩ := id hF
    refine pw_aload_n (i := 0) C dX1_undo_0 rfl rfl (Or.inr ⟨_, rfl⟩) ?_
    refine pw_get (j := 1) C cl_X1 fl_X1_15 (by decide) rfl hC rfl dX1_undo_1 ?_
    refine pw_aload_n (i := 0) C dX1_undo_4 rfl rfl (Or.inr ⟨_, rfl⟩) ?_
    refine pw_get (j := 1) C cl_X1 fl_X1_15 (by decide) rfl hC rfl dX1_undo_5 ?_
    refine pw_getN (j := 1) C cl_X4 fn_X1_164 (by decide) rfl hc160 rfl dX1_undo_8 ?_
    refine pw_iconst C dX1_undo_11 ?_
    refine pw_isub C dX1_undo_12 ?_
    refine pw_callV (As := [.int (iZ ((((ds0 ++ [d0]).length : Nat) : Int) - 1))]) (st := []) C (m_X4_at g l hF (x := ((((ds0 ++ [d0]).length : Nat) : Int) - 1)) (by omega)) my_X4_at ml_X1_165 (hF.rec C) rfl ⟨Nat.le_of_ble_eq_true rfl, Nat.le_of_ble_eq_true rfl⟩ ⟨by (try dsimp only); omega, by (try dsimp only); omega⟩ rfl (Nat.le_of_ble_eq_true rfl) dX1_undo_13 ?_
    rintro _ _ ⟨rfl, rfl⟩
    rw [if_pos ⟨by omega, by omega⟩, show ((((ds0 ++ [d0]).length : Nat) : Int) - 1).toNat = ds0.length by omega]
    refine pw_stk (st' := [.ref (D ds0.length)]) rfl ?_
    refine pw_astore_n (i := 1) (lv' := [(0, .ref (A 20)), (1, .ref (D ds0.length))]) C dX1_undo_16 rfl (by decide) (Or.inr ⟨_, rfl⟩) rfl ?_
    refine pw_aload_n (i := 1) C dX1_undo_17 rfl rfl (Or.inr ⟨_, rfl⟩) ?_
    refine pw_ifnonnullR (tgt := 23) C dX1_undo_18 (by decide) ?_
    refine pw_iconst C dX1_undo_23 ?_
    refine pw_istore_n (i := 2) (lv' := [(0, .ref (A 20)), (1, .ref (D ds0.length)), (2, .int (iZ 0))]) C dX1_undo_24 rfl (by decide) rfl ?_
    exact loop ds0.length w 0 (by omega) hS hF hM hC (by rw [List.drop_zero]) (fun _ _ => rfl)

set_option maxRecDepth 100000 in
set_option maxHeartbeats 4000000 in
/-- show -/
theorem m_X1_show (g : pw_P) (l : Launch) {w : pw_W} {A : Nat → Nat} {cap : Nat} {t : Int → Ob} {n kp : Int} (hS : SB g w (A 2) cap t n) (hC : w 20 = (A 20, some (cmE A (-1) kp))) {D : Nat → Nat} {ds : List Df} {T : List Dn} (hF : FnI g w A D ds) (hDk : DsT t kp ds T) (hkp : 24 ≤ kp ∧ kp ≤ n) (hM : TmJ g w A) {fu nk : Nat} (hI : EvI g w A fu 0 0 nk) (hT : TOk T) (hTs : TSz T) {z : Int} {N : Ob} (hz : Vl t n z N) (hcap : n + 244 ≤ cap) : pw_M g l yX1_show cX1_show 4 (some .int) { frames := 5, cells := 0, slots := 0, locals := 122 } [.ref (A 20), .int (iZ z)] w (fun r w' => CmP g w w' A cap t n fu kp 244 ((((showC T N).1, (showC T N).2, 0, 0, nk), T)) r) := by
  refine pw_M.of (by decide) (Nat.le_of_ble_eq_true rfl) rfl ?_
  intro p e s m args below meth c C hr hn
  have hn0 := hS.n
  have hD : DsT t n ds T := hDk.ext ⟨hkp.2, fun _ _ _ => rfl⟩
  have hzr := Vl.rng hS hz
  refine pw_aload_n (i := 0) C dX1_show_0 rfl rfl (Or.inr ⟨_, rfl⟩) ?_
  refine pw_iload_n (i := 1) C dX1_show_1 rfl rfl ?_
  refine pw_callV (As := [.int (iZ z)]) (st := []) C (m_X1_isFunctionName g l hS hC hz) my_X1_isFunctionName ml_X1_119 (pw_rec.of C hC cl_X1.1) rfl ⟨Nat.le_of_ble_eq_true rfl, Nat.le_of_ble_eq_true rfl⟩ ⟨Nat.le_of_ble_eq_true rfl, Nat.le_of_ble_eq_true rfl⟩ rfl (Nat.le_of_ble_eq_true rfl) dX1_show_2 ?_
  rintro _ _ ⟨rfl, rfl⟩
  refine pw_stk (st' := [.int (iZ (b2i (isFN N)))]) rfl ?_
  refine pw_if_neB (tgt := 10) C dX1_show_5 (by decide) (fun h_1 => ?_) (fun h_1 => ?_)
  · have hid := h_1
    refine pw_aload_n (i := 0) C dX1_show_10 rfl rfl (Or.inr ⟨_, rfl⟩) ?_
    refine pw_get (j := 1) C cl_X1 fl_X1_15 (by decide) rfl hC rfl dX1_show_11 ?_
    refine pw_iload_n (i := 1) C dX1_show_14 rfl rfl ?_
    refine pw_callV (As := [.int (iZ z)]) (st := []) C (m_X4_find g l hF (x := z) (by omega)) my_X4_find ml_X1_122 (hF.rec C) rfl ⟨Nat.le_of_ble_eq_true rfl, Nat.le_of_ble_eq_true rfl⟩ ⟨by (try dsimp only); omega, by (try dsimp only); omega⟩ rfl (Nat.le_of_ble_eq_true rfl) dX1_show_15 ?_
    rintro _ _ ⟨rfl, rfl⟩
    rcases DsT.look hS hz 0 hD with ⟨l1, hdl⟩ | ⟨j0, d, D1, l1, hj, l3, hdl, l5, l6, l7, l8, l9⟩
    · rw [l1]
      refine pw_stk (st' := [.null]) rfl ?_
      refine pw_astore_n (i := 2) (lv' := [(0, .ref (A 20)), (1, .int (iZ z)), (2, .null)]) C dX1_show_18 rfl (by decide) (Or.inl rfl) rfl ?_
      refine pw_aload_n (i := 2) C dX1_show_19 rfl rfl (Or.inl rfl) ?_
      refine pw_ifnonnullZ C dX1_show_20 ?_
      refine pw_iconst C dX1_show_23 ?_
      refine pw_wide 0 0 (by (try dsimp only); omega) (by (try dsimp only); omega) ?_
      refine pw_iret C hr dX1_show_24 ?_
      unfold showC; rw [if_pos hid, hdl]
      exact ⟨t, n, -1, kp, D, ds, rfl, hS.same (fun k h1 h2 => rfl), Ext.rf, by omega, hF.same (fun k h => rfl), hDk, ⟨hkp.1, hkp.2, Or.inl rfl⟩, hI.same (fun k h => rfl), hM.same (fun k h => rfl), hC, rfl, fun k hk => rfl⟩
    · obtain ⟨hd1, hd2⟩ := hF.get hj
      have hdt := hd2.2.1
      rw [Nat.zero_add] at l1
      rw [l1]
      have hj0 : j0 < 40 := by have h1 := (List.getElem?_eq_some_iff.mp hj).1; have h2 := hF.len; omega
      have hdn : Vl t n d.1 D1.1 := by rw [l5, l6]; exact hz
      refine pw_stk (st' := [.ref (D j0)]) rfl ?_
      refine pw_astore_n (i := 2) (lv' := [(0, .ref (A 20)), (1, .int (iZ z)), (2, .ref (D j0))]) C dX1_show_18 rfl (by decide) (Or.inr ⟨_, rfl⟩) rfl ?_
      refine pw_aload_n (i := 2) C dX1_show_19 rfl rfl (Or.inr ⟨_, rfl⟩) ?_
      refine pw_ifnonnullR (tgt := 25) C dX1_show_20 (by decide) ?_
      have hDm : D1 ∈ T := (dLk_mem hdl).1
      refine pw_aload_n (i := 0) C dX1_show_25 rfl rfl (Or.inr ⟨_, rfl⟩) ?_
      refine pw_get (j := 0) C cl_X1 fl_X1_9 (by decide) rfl hC rfl dX1_show_26 ?_
      refine pw_aload_n (i := 0) C dX1_show_29 rfl rfl (Or.inr ⟨_, rfl⟩) ?_
      refine pw_get (j := 3) C cl_X1 fl_X1_28 (by decide) rfl hC rfl dX1_show_30 ?_
      refine pw_aload_n (i := 2) C dX1_show_33 rfl rfl (Or.inr ⟨_, rfl⟩) ?_
      refine pw_getN (j := 3) C cl_X2 fn_X1_158 (by decide) rfl hd1 rfl dX1_show_34 ?_
      refine pw_callV (As := [.int (iZ d.2.2.2)]) (st := [.ref (A 2)]) C (m_X8_plain g l hS hM l9 (hT D1 hDm).2.2.2 (hTs D1 hDm) (by omega)) my_X8_plain ml_X1_177 (hM.rec C) rfl ⟨Nat.le_of_ble_eq_true rfl, Nat.le_of_ble_eq_true rfl⟩ ⟨by (try dsimp only); omega, by (try dsimp only); omega⟩ rfl (Nat.le_of_ble_eq_true rfl) dX1_show_37 ?_
      rintro _ w_4 ⟨zp, tp, np, rfl, hSp, hxp, hnp, hzp, hMp, o_5⟩
      have hxp1 := hxp.1
      have v_6 := Vl.ext hz hxp
      have v_7 := Vl.ext l9 hxp
      have v_8 := Vl.ext l8 hxp
      have v_9 := Vl.ext hdn hxp
      have zpr := Vl.rng hSp hzp
      refine pw_stk (st' := [.int (iZ zp), .ref (A 2)]) rfl ?_
      refine pw_iconst C dX1_show_40 ?_
      refine pw_callV (As := [.int (iZ zp), .int (iZ 0)]) (st := []) C (vr_pair hSp (by omega) hzp (Vl.k hSp 0 (by decide))) my_X6_pair ml_X1_113 (hSp.rec C) rfl ⟨Nat.le_of_ble_eq_true rfl, Nat.le_of_ble_eq_true rfl⟩ ⟨by (try dsimp only); omega, by (try dsimp only); omega⟩ rfl (Nat.le_of_ble_eq_true rfl) dX1_show_41 ?_
      rintro _ w_17 ⟨z_10, t_11, n_12, rfl, S_13, x_14, hn_15, z_10v, o_16⟩
      have x_141 := x_14.1
      have v_18 := Vl.ext v_6 x_14
      have v_19 := Vl.ext v_7 x_14
      have v_20 := Vl.ext v_8 x_14
      have v_21 := Vl.ext v_9 x_14
      have v_22 := Vl.ext hzp x_14
      have z_10r := Vl.rng S_13 z_10v
      refine pw_stk (st' := [.int (iZ z_10)]) rfl ?_
      refine pw_istore_n (i := 3) (lv' := [(0, .ref (A 20)), (1, .int (iZ z)), (2, .ref (D j0)), (3, .int (iZ z_10))]) C dX1_show_44 rfl (by decide) rfl ?_
      refine pw_aload_n (i := 0) C dX1_show_45 rfl rfl (Or.inr ⟨_, rfl⟩) ?_
      have c_23 := ((o_16 20 (by omega)).trans (o_5 20 (by omega))).trans hC
      refine pw_get (j := 0) C cl_X1 fl_X1_9 (by decide) rfl c_23 rfl dX1_show_46 ?_
      refine pw_aload_n (i := 2) C dX1_show_49 rfl rfl (Or.inr ⟨_, rfl⟩) ?_
      have c_24 := ((o_16 (100 + j0) (by omega)).trans (o_5 (100 + j0) (by omega))).trans hd1
      refine pw_getN (j := 2) C cl_X2 fn_X1_155 (by decide) rfl c_24 rfl dX1_show_50 ?_
      refine pw_iload_n (i := 3) C dX1_show_53 rfl rfl ?_
      refine pw_callV (As := [.int (iZ d.2.2.1), .int (iZ z_10)]) (st := []) C (vr_pair S_13 (by omega) v_20 z_10v) my_X6_pair ml_X1_113 (S_13.rec C) rfl ⟨Nat.le_of_ble_eq_true rfl, Nat.le_of_ble_eq_true rfl⟩ ⟨by (try dsimp only); omega, by (try dsimp only); omega⟩ rfl (Nat.le_of_ble_eq_true rfl) dX1_show_54 ?_
      rintro _ w_32 ⟨z_25, t_26, n_27, rfl, S_28, x_29, hn_30, z_25v, o_31⟩
      have x_291 := x_29.1
      have v_33 := Vl.ext v_18 x_29
      have v_34 := Vl.ext v_19 x_29
      have v_35 := Vl.ext v_20 x_29
      have v_36 := Vl.ext v_21 x_29
      have v_37 := Vl.ext v_22 x_29
      have v_38 := Vl.ext z_10v x_29
      have z_25r := Vl.rng S_28 z_25v
      refine pw_stk (st' := [.int (iZ z_25)]) rfl ?_
      refine pw_istore_n (i := 3) (lv' := [(0, .ref (A 20)), (1, .int (iZ z)), (2, .ref (D j0)), (3, .int (iZ z_25))]) C dX1_show_57 rfl (by decide) rfl ?_
      refine pw_aload_n (i := 0) C dX1_show_58 rfl rfl (Or.inr ⟨_, rfl⟩) ?_
      have c_39 := (o_31 20 (by omega)).trans c_23
      refine pw_get (j := 0) C cl_X1 fl_X1_9 (by decide) rfl c_39 rfl dX1_show_59 ?_
      refine pw_aload_n (i := 2) C dX1_show_62 rfl rfl (Or.inr ⟨_, rfl⟩) ?_
      have c_40 := (o_31 (100 + j0) (by omega)).trans c_24
      refine pw_getN (j := 0) C cl_X2 fn_X1_168 (by decide) rfl c_40 rfl dX1_show_63 ?_
      refine pw_iload_n (i := 3) C dX1_show_66 rfl rfl ?_
      refine pw_callV (As := [.int (iZ d.1), .int (iZ z_25)]) (st := []) C (vr_pair S_28 (by omega) v_36 z_25v) my_X6_pair ml_X1_113 (S_28.rec C) rfl ⟨Nat.le_of_ble_eq_true rfl, Nat.le_of_ble_eq_true rfl⟩ ⟨by (try dsimp only); omega, by (try dsimp only); omega⟩ rfl (Nat.le_of_ble_eq_true rfl) dX1_show_67 ?_
      rintro _ w_48 ⟨z_41, t_42, n_43, rfl, S_44, x_45, hn_46, z_41v, o_47⟩
      have x_451 := x_45.1
      have v_49 := Vl.ext v_33 x_45
      have v_50 := Vl.ext v_34 x_45
      have v_51 := Vl.ext v_35 x_45
      have v_52 := Vl.ext v_36 x_45
      have v_53 := Vl.ext v_37 x_45
      have v_54 := Vl.ext v_38 x_45
      have v_55 := Vl.ext z_25v x_45
      have z_41r := Vl.rng S_44 z_41v
      refine pw_stk (st' := [.int (iZ z_41)]) rfl ?_
      refine pw_istore_n (i := 3) (lv' := [(0, .ref (A 20)), (1, .int (iZ z)), (2, .ref (D j0)), (3, .int (iZ z_41))]) C dX1_show_70 rfl (by decide) rfl ?_
      refine pw_aload_n (i := 0) C dX1_show_71 rfl rfl (Or.inr ⟨_, rfl⟩) ?_
      refine pw_aload_n (i := 0) C dX1_show_72 rfl rfl (Or.inr ⟨_, rfl⟩) ?_
      have c_56 := (o_47 20 (by omega)).trans c_39
      refine pw_get (j := 0) C cl_X1 fl_X1_9 (by decide) rfl c_56 rfl dX1_show_73 ?_
      refine pw_bipush C dX1_show_76 (by decide) ?_
      refine pw_iload_n (i := 3) C dX1_show_78 rfl rfl ?_
      refine pw_callV (As := [.int (iZ 20), .int (iZ z_41)]) (st := [.ref (A 20)]) C (vr_pair S_44 (by omega) (Vl.k S_44 20 (by decide)) z_41v) my_X6_pair ml_X1_113 (S_44.rec C) rfl ⟨Nat.le_of_ble_eq_true rfl, Nat.le_of_ble_eq_true rfl⟩ ⟨by (try dsimp only); omega, by (try dsimp only); omega⟩ rfl (Nat.le_of_ble_eq_true rfl) dX1_show_79 ?_
      rintro _ w_64 ⟨z_57, t_58, n_59, rfl, S_60, x_61, hn_62, z_57v, o_63⟩
      have x_611 := x_61.1
      have v_65 := Vl.ext v_49 x_61
      have v_66 := Vl.ext v_50 x_61
      have v_67 := Vl.ext v_51 x_61
      have v_68 := Vl.ext v_52 x_61
      have v_69 := Vl.ext v_53 x_61
      have v_70 := Vl.ext v_54 x_61
      have v_71 := Vl.ext v_55 x_61
      have v_72 := Vl.ext z_41v x_61
      have z_57r := Vl.rng S_60 z_57v
      refine pw_stk (st' := [.int (iZ z_57), .ref (A 20)]) rfl ?_
      have c_73 := (o_63 20 (by omega)).trans c_56
      refine pw_put (j := 4) C cl_X1 fl_X1_57 (by decide) rfl rfl rfl rfl rfl c_73 (Nat.le_of_ble_eq_true rfl) dX1_show_82 (fun w_76 k_74 o_75 => ?_)
      have k_77 : w_76 20 = ((A 20), some (OB 1 [.ref (A 2), .ref (A 16), .ref (A 18), .ref (A 21), .int (iZ z_57), .int (iZ kp)])) := k_74
      refine pw_iconst C dX1_show_85 ?_
      refine pw_wide 0 0 (by (try dsimp only); omega) (by (try dsimp only); omega) ?_
      refine pw_iret C hr dX1_show_86 ?_
      unfold showC; rw [if_pos hid, hdl]; simp only
      have hxx : Ext t n t_58 n_59 := ((((hxp.tr x_14).tr x_29).tr x_45).tr x_61)
      exact ⟨t_58, n_59, z_57, kp, D, ds, rfl, S_60.same (fun k h1 h2 => (o_75 k (by omega))), hxx, by omega, hF.same (fun k h => (o_75 k (by omega)).trans ((o_63 k (by omega)).trans ((o_47 k (by omega)).trans ((o_31 k (by omega)).trans ((o_16 k (by omega)).trans (o_5 k (by omega))))))), hDk.ext ⟨Int.le_refl _, fun i i0 i1 => hxx.2 i i0 (by omega)⟩, ⟨hkp.1, by omega, Or.inl rfl⟩, hI.same (fun k h => (o_75 k (by omega)).trans ((o_63 k (by omega)).trans ((o_47 k (by omega)).trans ((o_31 k (by omega)).trans ((o_16 k (by omega)).trans (o_5 k (by omega))))))), hMp.same (fun k h => (o_75 k (by omega)).trans ((o_63 k (by omega)).trans ((o_47 k (by omega)).trans ((o_31 k (by omega)).trans (o_16 k (by omega)))))), k_77, z_57v, fun k hk => (o_75 k (by omega)).trans ((o_63 k (by omega)).trans ((o_47 k (by omega)).trans ((o_31 k (by omega)).trans ((o_16 k (by omega)).trans (o_5 k (by omega))))))⟩
  · have hid := h_1
    refine pw_iconst C dX1_show_8 ?_
    refine pw_wide 0 0 (by (try dsimp only); omega) (by (try dsimp only); omega) ?_
    refine pw_iret C hr dX1_show_9 ?_
    unfold showC; rw [if_neg (by rw [hid]; decide)]
    exact ⟨t, n, -1, kp, D, ds, rfl, hS.same (fun k h1 h2 => rfl), Ext.rf, by omega, hF.same (fun k h => rfl), hDk, ⟨hkp.1, hkp.2, Or.inl rfl⟩, hI.same (fun k h => rfl), hM.same (fun k h => rfl), hC, rfl, fun k hk => rfl⟩

