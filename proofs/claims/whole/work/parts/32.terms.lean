def mkL : List Ob → Ob
  | [] => oNil
  | x :: q => .add x (mkL q)
/-- a term, and a list of terms, with plain constants -/
def pl2 : Ob → Ob × Ob
  | .add a b => (if obQ (.add a b) then (if isPc (obCar b) then obCar b else .add a b) else .add a (pl2 b).2, .add (pl2 a).1 (pl2 b).2)
  | x => (x, x)
theorem mkL_ls : ∀ {x : Ob}, 0 ≤ obLen x → (pl2 x).2 = mkL ((lsO x).map (fun y => (pl2 y).1)) := by
  intro x
  induction x with
  | add a b ha hb =>
    intro h
    have := obLen_cdr (x := .add a b) rfl h
    simp only [obCdr] at this
    simp only [pl2, lsO, List.map_cons, mkL, hb this.2]
  | _ => intro h; have h2 := (obLen_np rfl h).1; rw [h2]; rfl
theorem pl_cl {T : List Dn} {vs : Ob → Bool} {Y : Ob} (h : (wf2 T vs Y).1 = true) (hc : isCl Y = true) : (pl2 Y).1 = .add (obCar Y) (mkL ((chO Y).map (fun y => (pl2 y).1))) := by
  obtain ⟨c1, c2, c3, c4⟩ := isCl_wf h hc
  unfold chO
  rw [hc, if_pos rfl, ← mkL_ls c3]
  cases Y with
  | add a b => simp only [pl2, c2, obCar, obCdr]; rfl
  | _ => cases c1
theorem pl_q {Y : Ob} (hq : obQ Y = true) : (pl2 Y).1 = if isPc (obCar (obCdr Y)) then obCar (obCdr Y) else Y := by
  cases Y with
  | add a b => simp only [pl2, hq, if_true, obCdr] <;> rfl
  | _ => simp [obQ, obCar, obCdr, oNil, oQuote, kn, obP] at hq
theorem pl_o {T : List Dn} {vs : Ob → Bool} {Y : Ob} (h : (wf2 T vs Y).1 = true) (hc : isCl Y = false) (hq : obQ Y = false) : (pl2 Y).1 = Y := by
  cases Y with
  | add a b => rw [(isCl_at h hc).2 rfl] at hq; cases hq
  | _ => rfl
def ofs (G : List Ob) (k : Nat) : Nat := 1 + ((G.take k).flatMap chO).length
theorem ch_sz {T : List Dn} {vs : Ob → Bool} {Y : Ob} (h : (wf2 T vs Y).1 = true) : szA (chO Y) + 1 = (sz2 Y).1 := by
  unfold chO
  cases hc : isCl Y with
  | true =>
    obtain ⟨c1, c2, c3, c4⟩ := isCl_wf h hc
    rw [sz_cl c1 c2]; simp only [if_true]; omega
  | false => rw [(isCl_at h hc).1]; rfl
theorem ch_szA {T : List Dn} {vs : Ob → Bool} : ∀ {L : List Ob}, wfA T vs L = true → szA (L.flatMap chO) + L.length = szA L := by
  intro L
  induction L with
  | nil => intro _; rfl
  | cons x L ih =>
    intro h
    rw [wfA_cons, Bool.and_eq_true] at h
    have h1 := ch_sz h.1
    have h2 := ih h.2
    rw [List.flatMap_cons, szA_app]
    simp only [List.length_cons, szA]
    omega
theorem szA_drop (L : List Ob) (a b : Nat) (h : a ≤ b) : szA (L.drop b) ≤ szA (L.drop a) := by
  have e : L.drop a = (L.drop a).take (b - a) ++ L.drop b := by
    rw [show L.drop b = (L.drop a).drop (b - a) by rw [List.drop_drop]; congr 1; omega, List.take_append_drop]
  rw [e, szA_app]
  omega
theorem wfA_drop {T : List Dn} {vs : Ob → Bool} {L : List Ob} (h : wfA T vs L = true) (k : Nat) : wfA T vs (L.drop k) = true := by
  rw [← List.take_append_drop k L, wfA_app, Bool.and_eq_true] at h
  exact h.2
section
variable {T : List Dn} {vs : Ob → Bool} {G M : List Ob} {X : Ob}
theorem ofs_drop (hG : G = X :: M) (hM : M = G.flatMap chO) (k : Nat) : G.drop (ofs G k) = (G.drop k).flatMap chO := by
  have e : G.drop 1 = (G.take k).flatMap chO ++ (G.drop k).flatMap chO := by
    rw [← List.flatMap_append, List.take_append_drop, ← hM, hG]; rfl
  unfold ofs
  rw [← List.drop_drop, e, List.drop_left]
theorem ofs_gt (hw : wfA T vs G = true) (hG : G = X :: M) (hM : M = G.flatMap chO) {j : Nat} (hj : j < G.length) : j < ofs G j := by
  apply Nat.lt_of_not_le
  intro h
  have h1 := ofs_drop hG hM j
  have h2 := ch_szA (wfA_drop hw j)
  have h3 := szA_drop G _ _ h
  rw [h1] at h3
  rw [List.length_drop] at h2
  omega
theorem ofs_le (hG : G = X :: M) (hM : M = G.flatMap chO) (k : Nat) : ofs G k ≤ G.length := by
  have e : G.length = 1 + ((G.take k).flatMap chO ++ (G.drop k).flatMap chO).length := by
    rw [← List.flatMap_append, List.take_append_drop, ← hM, hG]; simp; omega
  rw [List.length_append] at e
  unfold ofs
  omega
theorem ofs_succ {j : Nat} {Y : Ob} (hY : G[j]? = some Y) : ofs G (j + 1) = ofs G j + (chO Y).length := by
  have hlt := (List.getElem?_eq_some_iff.mp hY).1
  unfold ofs
  rw [List.take_succ_eq_append_getElem hlt, (List.getElem?_eq_some_iff.mp hY).2, List.flatMap_append, List.length_append]
  simp
  omega
end
theorem VlsI.drop {t : Int → Ob} {n : Int} {f : Int → Int} : ∀ {i : Int} {L : List Ob} (d : Nat), VlsI t n f i L → VlsI t n f (i + d) (L.drop d)
  | i, L, 0, h => by simpa using h
  | i, [], d + 1, h => by simp [VlsI]
  | i, v :: L, d + 1, h => by
    have := VlsI.drop d h.2
    rw [show i + ((d + 1 : Nat) : Int) = i + 1 + (d : Int) by omega]
    exact this
theorem VlsI.left {t : Int → Ob} {n : Int} {f : Int → Int} : ∀ {i : Int} {L M : List Ob}, VlsI t n f i (L ++ M) → VlsI t n f i L
  | _, [], _, _ => trivial
  | _, _ :: _, _, h => ⟨h.1, VlsI.left h.2⟩
theorem VlsI.up {t : Int → Ob} {n : Int} {f : Int → Int} {k z : Int} : ∀ {i : Int} {L : List Ob}, k < i → VlsI t n f i L → VlsI t n (upz f k z) i L
  | _, [], _, _ => trivial
  | i, _ :: _, hk, h => ⟨by rw [upz_ne _ _ (by omega)]; exact h.1, VlsI.up (by omega) h.2⟩
theorem VlsI.set {t : Int → Ob} {n : Int} {f : Int → Int} {z : Int} {X : Ob} (hz : Vl t n z X) : ∀ {i : Int} {L : List Ob} (j : Nat), VlsI t n f i L → VlsI t n (upz f (i + j) z) i (L.set j X)
  | i, [], j, h => by simp [VlsI]
  | i, v :: L, 0, h => by
    rw [show i + ((0 : Nat) : Int) = i by simp]
    exact ⟨by rw [upz_self]; exact hz, VlsI.up (by omega) h.2⟩
  | i, v :: L, j + 1, h => by
    refine ⟨by rw [upz_ne _ _ (by omega)]; exact h.1, ?_⟩
    have := VlsI.set hz j h.2
    rw [show i + ((j + 1 : Nat) : Int) = i + 1 + (j : Int) by omega]
    exact this
theorem mix_set {G : List Ob} {j : Nat} {Y : Ob} (hY : G[j]? = some Y) (pl : Ob → Ob) : (G.take (j + 1) ++ (G.drop (j + 1)).map pl).set j (pl Y) = G.take j ++ (G.drop j).map pl := by
  have hlt := (List.getElem?_eq_some_iff.mp hY).1
  have h1 : G.take (j + 1) = G.take j ++ [Y] := by rw [List.take_succ_eq_append_getElem hlt, (List.getElem?_eq_some_iff.mp hY).2]
  have h2 : G.drop j = Y :: G.drop (j + 1) := by rw [List.drop_eq_getElem_cons hlt, (List.getElem?_eq_some_iff.mp hY).2]
  rw [h1, h2, List.append_assoc, List.set_append_right _ _ (by rw [List.length_take]; omega), List.length_take, show j - min j G.length = 0 by omega]
  rfl
theorem mix_get {G : List Ob} {j : Nat} {Y : Ob} (hY : G[j]? = some Y) (pl : Ob → Ob) : (G.take (j + 1) ++ (G.drop (j + 1)).map pl)[j]? = some Y := by
  have hlt := (List.getElem?_eq_some_iff.mp hY).1
  rw [List.getElem?_append_left (by rw [List.length_take]; omega), List.getElem?_take, if_pos (by omega), hY]
theorem mix_drop {G : List Ob} {k d : Nat} (hd : k ≤ d) (hk : k ≤ G.length) (pl : Ob → Ob) : (G.take k ++ (G.drop k).map pl).drop d = (G.drop d).map pl := by
  rw [List.drop_append, List.drop_eq_nil_of_le (by rw [List.length_take]; omega), List.nil_append, List.length_take, show min k G.length = k by omega, ← List.map_drop, List.drop_drop, show k + (d - k) = d by omega]
set_option maxRecDepth 100000 in
set_option maxHeartbeats 4000000 in
/-- listOfParts -/
theorem m_X8_listOfParts (g : pw_P) (l : Launch) {w : pw_W} {A : Nat → Nat} {cap : Nat} {t : Int → Ob} {n : Int} {M : List Ob} {a b : Nat} {f : Int → Int} {cx : Int} (hS : SB g w (A 2) cap t n) (k1 : w 21 = (A 21, some (OB 8 [.ref (A 2), .ref (A 16), .ref (A 22), .int (iZ cx)]))) (k2 : w 22 = (A 22, some (AI g 120 f))) (k3 : ∀ j, inI (f j)) (hM : VlsI t n f (a : Int) M) (hb : a + M.length = b) (hb2 : b ≤ 120) (hcap : n + M.length ≤ cap) : pw_M g l yX8_listOfParts cX8_listOfParts 5 (some .int) { frames := 3, cells := 0, slots := 0, locals := 73 } [.ref (A 21), .int (iZ ((a : Nat) : Int)), .int (iZ ((b : Nat) : Int))] w (fun r w' => ∃ (z : Int) (t' : Int → Ob) (n' : Int), r = some (.int (iZ z)) ∧ SB g w' (A 2) cap t' n' ∧ Ext t n t' n' ∧ n' ≤ n + M.length ∧ Vl t' n' z (mkL M) ∧ ∀ k, (k < 2 ∨ 7 < k) → w' k = w k) := by
  refine pw_M.of (by decide) (Nat.le_of_ble_eq_true rfl) rfl ?_
  intro p e s m args below meth c C hr hn
  have hn0 := hS.n
  have loop : ∀ (kk : Nat) (w1 : pw_W) (t1 : Int → Ob) (n1 y i : Int), i + 1 = (a : Int) + kk → kk ≤ M.length → SB g w1 (A 2) cap t1 n1 → Ext t n t1 n1 → n1 + kk ≤ n + M.length → Vl t1 n1 y (mkL (M.drop kk)) → (∀ k, (k < 2 ∨ 7 < k) → w1 k = w k) → pw_G g p l e { frames := 3, cells := 0, slots := 0, locals := 73 } s m args below meth c 5 (pw_Q g below (fun r w' => ∃ (z : Int) (t' : Int → Ob) (n' : Int), r = some (.int (iZ z)) ∧ SB g w' (A 2) cap t' n' ∧ Ext t n t' n' ∧ n' ≤ n + M.length ∧ Vl t' n' z (mkL M) ∧ ∀ k, (k < 2 ∨ 7 < k) → w' k = w k) args s { frames := 3, cells := 0, slots := 0, locals := 73 }) 0 0 7 [(0, .ref (A 21)), (1, .int (iZ ((a : Nat) : Int))), (2, .int (iZ ((b : Nat) : Int))), (3, .int (iZ y)), (4, .int (iZ i))] [] w1 := by
    intro kk
    induction kk with
    | zero =>
      intro w1 t1 n1 y i hi hk hS1 hext hcp hy hf1
      have hn1 := hS1.n
      have hyr := Vl.rng hS1 hy
      refine pw_iload C dX8_listOfParts_7 rfl ?_
      refine pw_iload_n (i := 1) C dX8_listOfParts_9 rfl rfl ?_
      refine pw_icmp_lt (tgt := 40) C (by omega) (by omega) dX8_listOfParts_10 (by decide) (fun h_11 => ?_) (fun h_11 => ?_)
      · refine pw_iload_n (i := 3) C dX8_listOfParts_40 rfl rfl ?_
        exact pw_iret C hr dX8_listOfParts_41 ⟨y, t1, n1, rfl, hS1, hext, by omega, by rw [List.drop_zero] at hy; exact hy, hf1⟩
      · exfalso; omega
    | succ kk ih =>
      intro w1 t1 n1 y i hi hk hS1 hext hcp hy hf1
      have hn1 := hS1.n
      have hyr := Vl.rng hS1 hy
      have hlt : kk < M.length := by omega
      obtain ⟨Z, hZ⟩ : ∃ Z, M[kk]? = some Z := ⟨_, List.getElem?_eq_getElem hlt⟩
      have hdr : mkL (M.drop kk) = .add Z (mkL (M.drop (kk + 1))) := by rw [List.drop_eq_getElem_cons hlt, (List.getElem?_eq_some_iff.mp hZ).2]; rfl
      have hfi : Vl t1 n1 (f i) Z := by have := (VlsI.mem kk hM hZ).ext hext; rw [show i = (a : Int) + (kk : Int) by omega]; exact this
      have hfr := Vl.rng hS1 hfi
      have k1b := (hf1 21 (by omega)).trans k1
      have k2b := (hf1 22 (by omega)).trans k2
      refine pw_iload C dX8_listOfParts_7 rfl ?_
      refine pw_iload_n (i := 1) C dX8_listOfParts_9 rfl rfl ?_
      refine pw_icmp_lt (tgt := 40) C (by omega) (by omega) dX8_listOfParts_10 (by decide) (fun h_21 => ?_) (fun h_21 => ?_)
      · exfalso; omega
      · refine pw_iload C dX8_listOfParts_13 rfl ?_
        refine pw_if_lt (tgt := 40) C (by omega) dX8_listOfParts_15 (by decide) (fun h_22 => ?_) (fun h_22 => ?_)
        · exfalso; omega
        · refine pw_aload_n (i := 0) C dX8_listOfParts_18 rfl rfl (Or.inr ⟨_, rfl⟩) ?_
          refine pw_get (j := 0) C cl_X8 fl_X8_15 (by decide) rfl k1b rfl dX8_listOfParts_19 ?_
          refine pw_aload_n (i := 0) C dX8_listOfParts_22 rfl rfl (Or.inr ⟨_, rfl⟩) ?_
          refine pw_get (j := 2) C cl_X8 fl_X8_9 (by decide) rfl k1b rfl dX8_listOfParts_23 ?_
          refine pw_iload C dX8_listOfParts_26 rfl ?_
          refine pw_iald C k2b ⟨by omega, by omega, by omega⟩ dX8_listOfParts_28 ?_
          refine pw_iload_n (i := 3) C dX8_listOfParts_29 rfl rfl ?_
          refine pw_callV (As := [.int (iZ (f i)), .int (iZ y)]) (st := []) C (vr_pair hS1 (by omega) hfi hy) my_X6_pair ml_X8_73 (hS1.rec C) rfl ⟨Nat.le_of_ble_eq_true rfl, Nat.le_of_ble_eq_true rfl⟩ ⟨Nat.le_of_ble_eq_true rfl, Nat.le_of_ble_eq_true rfl⟩ rfl (Nat.le_of_ble_eq_true rfl) dX8_listOfParts_30 ?_
          rintro _ w_30 ⟨z_23, t_24, n_25, rfl, S_26, x_27, hn_28, z_23v, o_29⟩
          have x_271 := x_27.1
          have v_31 := Vl.ext hy x_27
          have v_32 := Vl.ext hfi x_27
          have v_33 := Vl.ext hfi x_27
          have z_23r := Vl.rng S_26 z_23v
          refine pw_stk (st' := [.int (iZ z_23)]) rfl ?_
          refine pw_istore_n (i := 3) (lv' := [(0, .ref (A 21)), (1, .int (iZ ((a : Nat) : Int))), (2, .int (iZ ((b : Nat) : Int))), (3, .int (iZ z_23)), (4, .int (iZ i))]) C dX8_listOfParts_33 rfl (by decide) rfl ?_
          refine pw_iinc (lv' := [(0, .ref (A 21)), (1, .int (iZ ((a : Nat) : Int))), (2, .int (iZ ((b : Nat) : Int))), (3, .int (iZ z_23)), (4, .int (iZ (i + (-1))))]) C dX8_listOfParts_34 rfl (by decide) rfl ?_
          refine pw_goto (tgt := 7) C dX8_listOfParts_37 (by decide) ?_
          exact ih w_30 t_24 n_25 z_23 _ (by omega) (by omega) S_26 (hext.tr x_27) (by omega) (by rw [hdr]; exact z_23v) (fun k hk => ((o_29 k (by omega))).trans (hf1 k hk))
  refine pw_iconst C dX8_listOfParts_0 ?_
  refine pw_istore_n (i := 3) (lv' := [(0, .ref (A 21)), (1, .int (iZ ((a : Nat) : Int))), (2, .int (iZ ((b : Nat) : Int))), (3, .int (iZ 0))]) C dX8_listOfParts_1 rfl (by decide) rfl ?_
  refine pw_iload_n (i := 2) C dX8_listOfParts_2 rfl rfl ?_
  refine pw_iconst C dX8_listOfParts_3 ?_
  refine pw_isub C dX8_listOfParts_4 ?_
  refine pw_istore (lv' := [(0, .ref (A 21)), (1, .int (iZ ((a : Nat) : Int))), (2, .int (iZ ((b : Nat) : Int))), (3, .int (iZ 0)), (4, .int (iZ (((b : Nat) : Int) - 1)))]) C dX8_listOfParts_5 (by decide) rfl ?_
  exact loop M.length w t n 0 _ (by omega) (by omega) hS Ext.rf (by omega) (by rw [List.drop_length]; exact Vl.nil hS) (fun _ _ => rfl)

theorem List.set_getElem?_self {L : List Ob} {j : Nat} {Y : Ob} (h : L[j]? = some Y) : L.set j Y = L := by
  have hlt := (List.getElem?_eq_some_iff.mp h).1
  rw [← (List.getElem?_eq_some_iff.mp h).2, List.set_getElem_self]
set_option maxRecDepth 100000 in
set_option maxHeartbeats 4000000 in
/-- plain -/
theorem m_X8_plain (g : pw_P) (l : Launch) {w : pw_W} {A : Nat → Nat} {cap : Nat} {t : Int → Ob} {n : Int} (hS : SB g w (A 2) cap t n) (hM : TmJ g w A) {T : List Dn} {vs : Ob → Bool} {x : Int} {X : Ob} (hx : Vl t n x X) (hwf : (wf2 T vs X).1 = true) (hsz0 : (sz2 X).1 ≤ 120) (hcap : n + 240 ≤ cap) : pw_M g l yX8_plain cX8_plain 6 (some .int) { frames := 4, cells := 0, slots := 0, locals := 97 } [.ref (A 21), .int (iZ x)] w (fun r w' => ∃ (z : Int) (t' : Int → Ob) (n' : Int), r = some (.int (iZ z)) ∧ SB g w' (A 2) cap t' n' ∧ Ext t n t' n' ∧ n' ≤ n + 240 ∧ Vl t' n' z (pl2 X).1 ∧ TmJ g w' A ∧ ∀ k, (k < 2 ∨ (7 < k ∧ k < 21) ∨ 22 < k) → w' k = w k) := by
  refine pw_M.of (by decide) (Nat.le_of_ble_eq_true rfl) rfl ?_
  intro p e s m args below meth c C hr hn
  obtain ⟨fq, cxq, kq1, kq2, kq3⟩ := id hM
  have hn0 := hS.n
  obtain ⟨hG1, hG2, M, hG, hM0⟩ := allP_ok hwf hsz0
  have hGne : 0 < (allP X).length := by rw [hG]; simp
  have loop : ∀ (kk : Nat) (w1 : pw_W) (t1 : Int → Ob) (n1 : Int) (f : Int → Int) (i : Int), i + 1 = (kk : Int) → kk ≤ (allP X).length → n1 + kk + (ofs (allP X) kk : Nat) ≤ n + 240 → SB g w1 (A 2) cap t1 n1 → Ext t n t1 n1 → n1 + kk + (ofs (allP X) kk : Nat) ≤ n + 240 → w1 21 = (A 21, some (OB 8 [.ref (A 2), .ref (A 16), .ref (A 22), .int (iZ (((allP X).length : Nat) : Int))])) → w1 22 = (A 22, some (AI g 120 f)) → (∀ j, inI (f j)) → VlsI t1 n1 f 0 ((allP X).take kk ++ ((allP X).drop kk).map (fun y => (pl2 y).1)) → (∀ k, (k < 2 ∨ (7 < k ∧ k < 21) ∨ 22 < k) → w1 k = w k) → pw_G g p l e { frames := 4, cells := 0, slots := 0, locals := 97 } s m args below meth c 6 (pw_Q g below (fun r w' => ∃ (z : Int) (t' : Int → Ob) (n' : Int), r = some (.int (iZ z)) ∧ SB g w' (A 2) cap t' n' ∧ Ext t n t' n' ∧ n' ≤ n + 240 ∧ Vl t' n' z (pl2 X).1 ∧ TmJ g w' A ∧ ∀ k, (k < 2 ∨ (7 < k ∧ k < 21) ∨ 22 < k) → w' k = w k) args s { frames := 4, cells := 0, slots := 0, locals := 97 }) 0 0 17 [(0, .ref (A 21)), (1, .int (iZ x)), (2, .int (iZ ((ofs (allP X) kk : Nat) : Int))), (3, .int (iZ i))] [] w1 := by
    intro kk
    induction kk with
    | zero =>
      intro w1 t1 n1 f i hi hkl hcp0 hS1 hext hcp k1 k2 k3 k4 hf1
      have hv0 : Vl t1 n1 (f 0) (pl2 X).1 := by
        have h2 := VlsI.mem 0 k4 (X := (pl2 X).1) (by rw [hG]; rfl)
        exact h2
      refine pw_iload_n (i := 3) C dX8_plain_17 rfl rfl ?_
      refine pw_if_lt (tgt := 142) C (by omega) dX8_plain_18 (by decide) (fun h_11 => ?_) (fun h_11 => ?_)
      · refine pw_aload_n (i := 0) C dX8_plain_142 rfl rfl (Or.inr ⟨_, rfl⟩) ?_
        refine pw_get (j := 2) C cl_X8 fl_X8_9 (by decide) rfl k1 rfl dX8_plain_143 ?_
        refine pw_iconst C dX8_plain_146 ?_
        refine pw_iald C k2 ⟨by omega, by omega, by omega⟩ dX8_plain_147 ?_
        exact pw_iret C hr dX8_plain_148 ⟨f 0, t1, n1, rfl, hS1, hext, by omega, hv0, ⟨f, _, k1, k2, k3⟩, hf1⟩
      · exfalso; omega
    | succ kk ih =>
      intro w1 t1 n1 f i hi hkl hcp0 hS1 hext hcp k1 k2 k3 k4 hf1
      have hn1 := hS1.n
      have hMJ : TmJ g w1 A := ⟨f, _, k1, k2, k3⟩
      have hlt : kk < (allP X).length := by omega
      have hik : i = (kk : Int) := by omega
      obtain ⟨Y, hY⟩ : ∃ Y, (allP X)[kk]? = some Y := ⟨_, List.getElem?_eq_getElem hlt⟩
      have hdrop : (allP X).drop kk = Y :: (allP X).drop (kk + 1) := by rw [List.drop_eq_getElem_cons hlt, (List.getElem?_eq_some_iff.mp hY).2]
      have hwY : (wf2 T vs Y).1 = true := by have h2 := wfA_drop hG2 kk; rw [hdrop, wfA_cons, Bool.and_eq_true] at h2; exact h2.1
      have hfi : Vl t1 n1 (f i) Y := by have := VlsI.mem kk k4 (mix_get hY (fun y => (pl2 y).1)); rw [Int.zero_add] at this; rw [hik]; exact this
      have hfr := Vl.rng hS1 hfi
      have hog := ofs_gt hG2 hG hM0 hlt
      have hol := ofs_le hG hM0 (kk + 1)
      have hos := ofs_succ hY
      refine pw_iload_n (i := 3) C dX8_plain_17 rfl rfl ?_
      refine pw_if_lt (tgt := 142) C (by omega) dX8_plain_18 (by decide) (fun h_31 => ?_) (fun h_31 => ?_)
      · exfalso; omega
      · refine pw_aload_n (i := 0) C dX8_plain_21 rfl rfl (Or.inr ⟨_, rfl⟩) ?_
        refine pw_get (j := 2) C cl_X8 fl_X8_9 (by decide) rfl k1 rfl dX8_plain_22 ?_
        refine pw_iload_n (i := 3) C dX8_plain_25 rfl rfl ?_
        refine pw_iald C k2 ⟨by omega, by omega, by omega⟩ dX8_plain_26 ?_
        refine pw_istore (lv' := [(0, .ref (A 21)), (1, .int (iZ x)), (2, .int (iZ ((ofs (allP X) (kk + 1) : Nat) : Int))), (3, .int (iZ i)), (4, .int (iZ (f i)))]) C dX8_plain_27 (by decide) rfl ?_
        refine pw_aload_n (i := 0) C dX8_plain_29 rfl rfl (Or.inr ⟨_, rfl⟩) ?_
        refine pw_iload C dX8_plain_30 rfl ?_
        refine pw_callV (As := [.int (iZ (f i))]) (st := []) C (m_X8_isCall g l hS1 hMJ hfi) my_X8_isCall ml_X8_66 (hMJ.rec C) rfl ⟨Nat.le_of_ble_eq_true rfl, Nat.le_of_ble_eq_true rfl⟩ ⟨Nat.le_of_ble_eq_true rfl, Nat.le_of_ble_eq_true rfl⟩ rfl (Nat.le_of_ble_eq_true rfl) dX8_plain_32 ?_
        rintro _ _ ⟨rfl, rfl⟩
        refine pw_stk (st' := [.int (iZ (b2i (isCl Y)))]) rfl ?_
        refine pw_if_eqB (tgt := 93) C dX8_plain_35 (by decide) (fun h_32 => ?_) (fun h_32 => ?_)
        · have hcl := h_32
          have hnofs : ofs (allP X) (kk + 1) = ofs (allP X) kk := by rw [ofs_succ hY, show chO Y = [] from by unfold chO; rw [hcl]; rfl]; rfl
          refine pw_aload_n (i := 0) C dX8_plain_93 rfl rfl (Or.inr ⟨_, rfl⟩) ?_
          refine pw_get (j := 0) C cl_X8 fl_X8_15 (by decide) rfl k1 rfl dX8_plain_94 ?_
          refine pw_iload C dX8_plain_97 rfl ?_
          refine pw_callV (As := [.int (iZ (f i))]) (st := []) C (vr_isQuoted hS1 hfi) my_X6_isQuoted ml_X8_44 (hS1.rec C) rfl ⟨Nat.le_of_ble_eq_true rfl, Nat.le_of_ble_eq_true rfl⟩ ⟨Nat.le_of_ble_eq_true rfl, Nat.le_of_ble_eq_true rfl⟩ rfl (Nat.le_of_ble_eq_true rfl) dX8_plain_99 ?_
          rintro _ _ ⟨rfl, rfl⟩
          refine pw_stk (st' := [.int (iZ (b2i (obQ Y)))]) rfl ?_
          refine pw_if_eqB (tgt := 136) C dX8_plain_102 (by decide) (fun h_33 => ?_) (fun h_33 => ?_)
          · refine pw_iinc (lv' := [(0, .ref (A 21)), (1, .int (iZ x)), (2, .int (iZ ((ofs (allP X) (kk + 1) : Nat) : Int))), (3, .int (iZ (i + (-1)))), (4, .int (iZ (f i)))]) C dX8_plain_136 rfl (by decide) rfl ?_
            refine pw_goto (tgt := 17) C dX8_plain_139 (by decide) ?_
            refine pw_sub [0, 1, 2, 3] rfl ?_
            rw [hnofs]
            exact ih w1 t1 n1 f (i + -1) (by omega) (by omega) (by omega) hS1 hext (by omega) k1 k2 k3 (by rw [← mix_set hY (fun y => (pl2 y).1), show (pl2 Y).1 = Y from pl_o hwY hcl h_33, List.set_getElem?_self (mix_get hY (fun y => (pl2 y).1))]; exact k4) hf1
          · have hqr := h_33
            refine pw_aload_n (i := 0) C dX8_plain_105 rfl rfl (Or.inr ⟨_, rfl⟩) ?_
            refine pw_aload_n (i := 0) C dX8_plain_106 rfl rfl (Or.inr ⟨_, rfl⟩) ?_
            refine pw_get (j := 0) C cl_X8 fl_X8_15 (by decide) rfl k1 rfl dX8_plain_107 ?_
            refine pw_iload C dX8_plain_110 rfl ?_
            refine pw_callV (As := [.int (iZ (f i))]) (st := [.ref (A 21)]) C (vr_second hS1 hfi) my_X6_second ml_X8_76 (hS1.rec C) rfl ⟨Nat.le_of_ble_eq_true rfl, Nat.le_of_ble_eq_true rfl⟩ ⟨Nat.le_of_ble_eq_true rfl, Nat.le_of_ble_eq_true rfl⟩ rfl (Nat.le_of_ble_eq_true rfl) dX8_plain_112 ?_
            rintro _ _ ⟨rfl, z_34, rfl, z_34v⟩
            have z_34r := Vl.rng hS1 z_34v
            refine pw_stk (st' := [.int (iZ z_34), .ref (A 21)]) rfl ?_
            refine pw_callV (As := [.int (iZ z_34)]) (st := []) C (m_X8_isPlainConstant g l hS1 hMJ z_34v) my_X8_isPlainConstant ml_X8_79 (hMJ.rec C) rfl ⟨Nat.le_of_ble_eq_true rfl, Nat.le_of_ble_eq_true rfl⟩ ⟨Nat.le_of_ble_eq_true rfl, Nat.le_of_ble_eq_true rfl⟩ rfl (Nat.le_of_ble_eq_true rfl) dX8_plain_115 ?_
            rintro _ _ ⟨rfl, rfl⟩
            refine pw_stk (st' := [.int (iZ (b2i (isPc (obCar (obCdr Y)))))]) rfl ?_
            refine pw_if_eqB (tgt := 136) C dX8_plain_118 (by decide) (fun h_35 => ?_) (fun h_35 => ?_)
            · refine pw_iinc (lv' := [(0, .ref (A 21)), (1, .int (iZ x)), (2, .int (iZ ((ofs (allP X) (kk + 1) : Nat) : Int))), (3, .int (iZ (i + (-1)))), (4, .int (iZ (f i)))]) C dX8_plain_136 rfl (by decide) rfl ?_
              refine pw_goto (tgt := 17) C dX8_plain_139 (by decide) ?_
              refine pw_sub [0, 1, 2, 3] rfl ?_
              rw [hnofs]
              exact ih w1 t1 n1 f (i + -1) (by omega) (by omega) (by omega) hS1 hext (by omega) k1 k2 k3 (by rw [← mix_set hY (fun y => (pl2 y).1), show (pl2 Y).1 = Y from by rw [pl_q hqr, if_neg (by rw [h_35]; decide)], List.set_getElem?_self (mix_get hY (fun y => (pl2 y).1))]; exact k4) hf1
            · have hpc := h_35
              refine pw_aload_n (i := 0) C dX8_plain_121 rfl rfl (Or.inr ⟨_, rfl⟩) ?_
              refine pw_get (j := 2) C cl_X8 fl_X8_9 (by decide) rfl k1 rfl dX8_plain_122 ?_
              refine pw_iload_n (i := 3) C dX8_plain_125 rfl rfl ?_
              refine pw_aload_n (i := 0) C dX8_plain_126 rfl rfl (Or.inr ⟨_, rfl⟩) ?_
              refine pw_get (j := 0) C cl_X8 fl_X8_15 (by decide) rfl k1 rfl dX8_plain_127 ?_
              refine pw_iload C dX8_plain_130 rfl ?_
              refine pw_callV (As := [.int (iZ (f i))]) (st := [.int (iZ i), .ref (A 22)]) C (vr_second hS1 hfi) my_X6_second ml_X8_76 (hS1.rec C) rfl ⟨Nat.le_of_ble_eq_true rfl, Nat.le_of_ble_eq_true rfl⟩ ⟨Nat.le_of_ble_eq_true rfl, Nat.le_of_ble_eq_true rfl⟩ rfl (Nat.le_of_ble_eq_true rfl) dX8_plain_132 ?_
              rintro _ _ ⟨rfl, z_36, rfl, z_36v⟩
              have z_36r := Vl.rng hS1 z_36v
              refine pw_stk (st' := [.int (iZ z_36), .int (iZ i), .ref (A 22)]) rfl ?_
              refine pw_iast C k2 ⟨by omega, by omega, by omega⟩ dX8_plain_135 (fun w_39 k_37 o_38 => ?_)
              refine pw_iinc (lv' := [(0, .ref (A 21)), (1, .int (iZ x)), (2, .int (iZ ((ofs (allP X) (kk + 1) : Nat) : Int))), (3, .int (iZ (i + (-1)))), (4, .int (iZ (f i)))]) C dX8_plain_136 rfl (by decide) rfl ?_
              refine pw_goto (tgt := 17) C dX8_plain_139 (by decide) ?_
              refine pw_sub [0, 1, 2, 3] rfl ?_
              have c_40 := (o_38 21 (by omega)).trans k1
              rw [hnofs]
              exact ih w_39 t1 n1 _ (i + -1) (by omega) (by omega) (by omega) (hS1.same (fun k h1 h2 => (o_38 k (by omega)))) hext (by omega) c_40 k_37 (upz_inI k3 (by omega)) (by have h2 := VlsI.set (z_36v) kk k4; rw [Int.zero_add, ← hik, show obCar (obCdr Y) = (pl2 Y).1 from by rw [pl_q hqr, if_pos hpc], mix_set hY (fun y => (pl2 y).1)] at h2; exact h2) (fun k hk => ((o_38 k (by omega))).trans (hf1 k hk))
        · have hcl := h_32
          obtain ⟨c1, c2, c3, c4⟩ := isCl_wf hwY hcl
          have hchl : ((chO Y).length : Int) = obLen (obCdr Y) := by unfold chO; rw [hcl, if_pos rfl]; exact lsO_len c3
          have hfst : ((ofs (allP X) (kk + 1) : Nat) : Int) - obLen (obCdr Y) = ((ofs (allP X) kk : Nat) : Int) := by have := ofs_succ hY; omega
          have hch : VlsI t1 n1 f ((ofs (allP X) kk : Nat) : Int) ((chO Y).map (fun y => (pl2 y).1)) := by have h2 := VlsI.drop (ofs (allP X) kk) k4; rw [mix_drop (by omega) (by omega), ofs_drop hG hM0, hdrop, List.flatMap_cons, List.map_append, Int.zero_add] at h2; exact h2.left
          have hoi := obLen_in hS1 hfi
          refine pw_iload_n (i := 2) C dX8_plain_38 rfl rfl ?_
          refine pw_aload_n (i := 0) C dX8_plain_39 rfl rfl (Or.inr ⟨_, rfl⟩) ?_
          refine pw_get (j := 0) C cl_X8 fl_X8_15 (by decide) rfl k1 rfl dX8_plain_40 ?_
          refine pw_aload_n (i := 0) C dX8_plain_43 rfl rfl (Or.inr ⟨_, rfl⟩) ?_
          refine pw_get (j := 0) C cl_X8 fl_X8_15 (by decide) rfl k1 rfl dX8_plain_44 ?_
          refine pw_iload C dX8_plain_47 rfl ?_
          refine pw_callV (As := [.int (iZ (f i))]) (st := [.ref (A 2), .int (iZ ((ofs (allP X) (kk + 1) : Nat) : Int))]) C (vr_tail hS1 hfi) my_X6_tail ml_X8_54 (hS1.rec C) rfl ⟨Nat.le_of_ble_eq_true rfl, Nat.le_of_ble_eq_true rfl⟩ ⟨Nat.le_of_ble_eq_true rfl, Nat.le_of_ble_eq_true rfl⟩ rfl (Nat.le_of_ble_eq_true rfl) dX8_plain_49 ?_
          rintro _ _ ⟨rfl, z_41, rfl, z_41v⟩
          have z_41r := Vl.rng hS1 z_41v
          refine pw_stk (st' := [.int (iZ z_41), .ref (A 2), .int (iZ ((ofs (allP X) (kk + 1) : Nat) : Int))]) rfl ?_
          refine pw_callV (As := [.int (iZ z_41)]) (st := [.int (iZ ((ofs (allP X) (kk + 1) : Nat) : Int))]) C (vr_lengthOf hS1 z_41v) my_X6_lengthOf ml_X8_57 (hS1.rec C) rfl ⟨Nat.le_of_ble_eq_true rfl, Nat.le_of_ble_eq_true rfl⟩ ⟨Nat.le_of_ble_eq_true rfl, Nat.le_of_ble_eq_true rfl⟩ rfl (Nat.le_of_ble_eq_true rfl) dX8_plain_52 ?_
          rintro _ _ ⟨rfl, rfl⟩
          refine pw_stk (st' := [.int (iZ (obLen (obCdr Y))), .int (iZ ((ofs (allP X) (kk + 1) : Nat) : Int))]) rfl ?_
          refine pw_isub C dX8_plain_55 ?_
          refine pw_istore (lv' := [(0, .ref (A 21)), (1, .int (iZ x)), (2, .int (iZ ((ofs (allP X) (kk + 1) : Nat) : Int))), (3, .int (iZ i)), (4, .int (iZ (f i))), (5, .int (iZ (((ofs (allP X) (kk + 1) : Nat) : Int) - obLen (obCdr Y))))]) C dX8_plain_56 (by decide) rfl ?_
          refine pw_aload_n (i := 0) C dX8_plain_58 rfl rfl (Or.inr ⟨_, rfl⟩) ?_
          refine pw_get (j := 2) C cl_X8 fl_X8_9 (by decide) rfl k1 rfl dX8_plain_59 ?_
          refine pw_iload_n (i := 3) C dX8_plain_62 rfl rfl ?_
          refine pw_aload_n (i := 0) C dX8_plain_63 rfl rfl (Or.inr ⟨_, rfl⟩) ?_
          refine pw_get (j := 0) C cl_X8 fl_X8_15 (by decide) rfl k1 rfl dX8_plain_64 ?_
          refine pw_aload_n (i := 0) C dX8_plain_67 rfl rfl (Or.inr ⟨_, rfl⟩) ?_
          refine pw_get (j := 0) C cl_X8 fl_X8_15 (by decide) rfl k1 rfl dX8_plain_68 ?_
          refine pw_iload C dX8_plain_71 rfl ?_
          refine pw_callV (As := [.int (iZ (f i))]) (st := [.ref (A 2), .int (iZ i), .ref (A 22)]) C (vr_head hS1 hfi) my_X6_head ml_X8_47 (hS1.rec C) rfl ⟨Nat.le_of_ble_eq_true rfl, Nat.le_of_ble_eq_true rfl⟩ ⟨Nat.le_of_ble_eq_true rfl, Nat.le_of_ble_eq_true rfl⟩ rfl (Nat.le_of_ble_eq_true rfl) dX8_plain_73 ?_
          rintro _ _ ⟨rfl, z_42, rfl, z_42v⟩
          have z_42r := Vl.rng hS1 z_42v
          refine pw_stk (st' := [.int (iZ z_42), .ref (A 2), .int (iZ i), .ref (A 22)]) rfl ?_
          refine pw_aload_n (i := 0) C dX8_plain_76 rfl rfl (Or.inr ⟨_, rfl⟩) ?_
          refine pw_iload C dX8_plain_77 rfl ?_
          refine pw_iload_n (i := 2) C dX8_plain_79 rfl rfl ?_
          refine pw_callV (As := [.int (iZ ((ofs (allP X) kk : Nat) : Int)), .int (iZ ((ofs (allP X) (kk + 1) : Nat) : Int))]) (st := [.int (iZ z_42), .ref (A 2), .int (iZ i), .ref (A 22)]) C (m_X8_listOfParts g l (M := (chO Y).map (fun y => (pl2 y).1)) hS1 k1 k2 k3 hch (by rw [List.length_map, ofs_succ hY]) (by omega) (by rw [List.length_map]; omega)) my_X8_listOfParts ml_X8_69 (hMJ.rec C) rfl ⟨Nat.le_of_ble_eq_true rfl, Nat.le_of_ble_eq_true rfl⟩ ⟨Nat.le_of_ble_eq_true rfl, Nat.le_of_ble_eq_true rfl⟩ (by rw [hfst]; rfl) (Nat.le_of_ble_eq_true rfl) dX8_plain_80 ?_
          rintro _ w_50 ⟨z_43, t_44, n_45, rfl, S_46, x_47, hn_48, z_43v, o_49⟩
          rw [List.length_map] at hn_48
          have x_471 := x_47.1
          have v_51 := Vl.ext hfi x_47
          have v_52 := Vl.ext hfi x_47
          have v_53 := Vl.ext z_41v x_47
          have v_54 := Vl.ext z_42v x_47
          have g_55 := VlsI.ext x_47 k4
          have z_43r := Vl.rng S_46 z_43v
          refine pw_stk (st' := [.int (iZ z_43), .int (iZ z_42), .ref (A 2), .int (iZ i), .ref (A 22)]) rfl ?_
          refine pw_callV (As := [.int (iZ z_42), .int (iZ z_43)]) (st := [.int (iZ i), .ref (A 22)]) C (vr_pair S_46 (by omega) v_54 z_43v) my_X6_pair ml_X8_73 (S_46.rec C) rfl ⟨Nat.le_of_ble_eq_true rfl, Nat.le_of_ble_eq_true rfl⟩ ⟨Nat.le_of_ble_eq_true rfl, Nat.le_of_ble_eq_true rfl⟩ rfl (Nat.le_of_ble_eq_true rfl) dX8_plain_83 ?_
          rintro _ w_63 ⟨z_56, t_57, n_58, rfl, S_59, x_60, hn_61, z_56v, o_62⟩
          have x_601 := x_60.1
          have v_64 := Vl.ext v_51 x_60
          have v_65 := Vl.ext v_52 x_60
          have v_66 := Vl.ext v_53 x_60
          have v_67 := Vl.ext v_54 x_60
          have v_68 := Vl.ext z_43v x_60
          have g_69 := VlsI.ext x_60 g_55
          have z_56r := Vl.rng S_59 z_56v
          refine pw_stk (st' := [.int (iZ z_56), .int (iZ i), .ref (A 22)]) rfl ?_
          have c_70 := ((o_62 22 (by omega)).trans (o_49 22 (by omega))).trans k2
          refine pw_iast C c_70 ⟨by omega, by omega, by omega⟩ dX8_plain_86 (fun w_73 k_71 o_72 => ?_)
          refine pw_iload C dX8_plain_87 rfl ?_
          refine pw_istore_n (i := 2) (lv' := [(0, .ref (A 21)), (1, .int (iZ x)), (2, .int (iZ (((ofs (allP X) (kk + 1) : Nat) : Int) - obLen (obCdr Y)))), (3, .int (iZ i)), (4, .int (iZ (f i))), (5, .int (iZ (((ofs (allP X) (kk + 1) : Nat) : Int) - obLen (obCdr Y))))]) C dX8_plain_89 rfl (by decide) rfl ?_
          refine pw_goto (tgt := 136) C dX8_plain_90 (by decide) ?_
          refine pw_iinc (lv' := [(0, .ref (A 21)), (1, .int (iZ x)), (2, .int (iZ (((ofs (allP X) (kk + 1) : Nat) : Int) - obLen (obCdr Y)))), (3, .int (iZ (i + (-1)))), (4, .int (iZ (f i))), (5, .int (iZ (((ofs (allP X) (kk + 1) : Nat) : Int) - obLen (obCdr Y))))]) C dX8_plain_136 rfl (by decide) rfl ?_
          refine pw_goto (tgt := 17) C dX8_plain_139 (by decide) ?_
          refine pw_sub [0, 1, 2, 3] rfl ?_
          have c_74 := ((o_72 21 (by omega)).trans ((o_62 21 (by omega)).trans (o_49 21 (by omega)))).trans k1
          rw [hfst]
          exact ih w_73 t_57 n_58 _ (i + -1) (by omega) (by omega) (by omega) (S_59.same (fun k h1 h2 => o_72 k (by omega))) ((hext.tr x_47).tr x_60) (by have := ofs_succ hY; omega) c_74 k_71 (upz_inI k3 (by omega)) (by have h2 := VlsI.set (z_56v) kk g_69; rw [Int.zero_add, ← hik, ← pl_cl hwY hcl, mix_set hY (fun y => (pl2 y).1)] at h2; exact h2) (fun k hk => ((o_72 k (by omega)).trans ((o_62 k (by omega)).trans (o_49 k (by omega)))).trans (hf1 k hk))
  refine pw_aload_n (i := 0) C dX8_plain_0 rfl rfl (Or.inr ⟨_, rfl⟩) ?_
  refine pw_iload_n (i := 1) C dX8_plain_1 rfl rfl ?_
  refine pw_callV (As := [.int (iZ x)]) (st := []) C (m_X8_gather g l hS hM hx hwf hsz0) my_X8_gather ml_X8_63 (hM.rec C) rfl ⟨Nat.le_of_ble_eq_true rfl, Nat.le_of_ble_eq_true rfl⟩ ⟨Nat.le_of_ble_eq_true rfl, Nat.le_of_ble_eq_true rfl⟩ rfl (Nat.le_of_ble_eq_true rfl) dX8_plain_2 ?_
  rintro _ w2 ⟨rfl, hM2, hf2⟩
  obtain ⟨f2, p1, p2, p3, p4, p5⟩ := id hM2
  refine pw_stk (st' := []) rfl ?_
  refine pw_aload_n (i := 0) C dX8_plain_5 rfl rfl (Or.inr ⟨_, rfl⟩) ?_
  refine pw_get (j := 3) C cl_X8 fl_X8_27 (by decide) rfl p1 rfl dX8_plain_6 ?_
  refine pw_istore_n (i := 2) (lv' := [(0, .ref (A 21)), (1, .int (iZ x)), (2, .int (iZ (((allP X).length : Nat) : Int)))]) C dX8_plain_9 rfl (by decide) rfl ?_
  refine pw_aload_n (i := 0) C dX8_plain_10 rfl rfl (Or.inr ⟨_, rfl⟩) ?_
  refine pw_get (j := 3) C cl_X8 fl_X8_27 (by decide) rfl p1 rfl dX8_plain_11 ?_
  refine pw_iconst C dX8_plain_14 ?_
  refine pw_isub C dX8_plain_15 ?_
  refine pw_istore_n (i := 3) (lv' := [(0, .ref (A 21)), (1, .int (iZ x)), (2, .int (iZ (((allP X).length : Nat) : Int))), (3, .int (iZ ((((allP X).length : Nat) : Int) - 1)))]) C dX8_plain_16 rfl (by decide) rfl ?_
  refine pw_wide 0 0 (Nat.le_of_ble_eq_true rfl) (Nat.le_of_ble_eq_true rfl) ?_
  have hol : ofs (allP X) (allP X).length = (allP X).length := by have h1 := ofs_drop hG hM0 (allP X).length; have h2 := ofs_le hG hM0 (allP X).length; rw [List.drop_length] at h1; have h3 := List.drop_eq_nil_iff.mp h1; omega
  have hgo := loop (allP X).length w2 t n f2 ((((allP X).length : Nat) : Int) - 1) (by omega) (Nat.le_refl _) (by omega) (hS.same (fun k h1 h2 => hf2 k (by omega))) Ext.rf (by omega) p1 p2 p3 (by rw [List.take_length, List.drop_length, List.map_nil, List.append_nil]; exact p4) (fun k hk => hf2 k (by omega))
  rw [hol] at hgo
  exact hgo

