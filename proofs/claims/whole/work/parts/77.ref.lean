theorem cdN_p {X : Ob} {j : Nat} : cdN (j + 1) X = obCdr (cdN j X) := by
  induction j generalizing X with
  | zero => rfl
  | succ j ih => rw [cdN, ih]; rfl
set_option maxRecDepth 100000 in
set_option maxHeartbeats 4000000 in
/-- nth -/
theorem m_X10_nth (g : pw_P) (l : Launch) {w : pw_W} {b : Nat} {B : Nat → Nat} {x : Nat → Int} (h0 : w 1000 = (b, some (mdE B x))) {t : Int → Ob} {n : Int} {sN : Nat} {fZ : Int → Int} (hR : RS g w B t n sN fZ) (h7 : x 7 = n) (h10 : x 10 = ((sN : Nat) : Int)) (hK : RK t n) {o : Int} {X : Ob} (ho : Vl t n o X) {i : Nat} (hi : i < 30000) (hp : ∀ j, j ≤ i → obP (cdN j X) = true) : pw_M g l yX10_nth cX10_nth 5 (some .int) { frames := 0, cells := 0, slots := 0, locals := 0 } [.ref b, .int (iZ o), .int (iZ ((i : Nat) : Int))] w (fun r w' => w = w' ∧ ∃ z, r = some (.int (iZ z)) ∧ Vl t n z (obCar (cdN i X))) := by
  refine pw_M.of (by decide) (Nat.le_of_ble_eq_true rfl) rfl ?_
  intro p e s m args below meth c C hr hn
  obtain ⟨fL, fR, fH, fV, l0, l1, l4, l5, ⟨m0, m1, m4, m5⟩, hln⟩ := RS.lens hR
  have hRn := hR.n
  have hor := Vl.rg hR ho
  have loop : ∀ (kk j : Nat) (k : Int), j + kk = i → Vl t n k (cdN j X) → pw_G g p l e { frames := 0, cells := 0, slots := 0, locals := 0 } s m args below meth c 5 (pw_Q g below (fun r w' => w = w' ∧ ∃ z, r = some (.int (iZ z)) ∧ Vl t n z (obCar (cdN i X))) args s { frames := 0, cells := 0, slots := 0, locals := 0 }) 0 0 5 [(0, .ref b), (1, .int (iZ o)), (2, .int (iZ ((i : Nat) : Int))), (3, .int (iZ k)), (4, .int (iZ ((j : Nat) : Int)))] [] w := by
    intro kk
    induction kk with
    | zero =>
      intro j k hk hy
      have hyr := Vl.rg hR hy
      refine pw_iload C dX10_nth_5 rfl ?_
      refine pw_iload_n (i := 2) C dX10_nth_7 rfl rfl ?_
      refine pw_icmp_ge (tgt := 24) C (by omega) (by omega) dX10_nth_8 (by decide) (fun h_11 => ?_) (fun h_11 => ?_)
      · refine pw_aload_n (i := 0) C dX10_nth_24 rfl rfl (Or.inr ⟨_, rfl⟩) ?_
        refine pw_get (j := 0) C cl_X10 fl_X10_8 (by decide) rfl h0 rfl dX10_nth_25 ?_
        refine pw_stk (st' := [.ref (B 0)]) rfl ?_
        refine pw_iload_n (i := 3) C dX10_nth_28 rfl rfl ?_
        have g_12 := m0 k
        refine pw_iald C l0 ⟨by omega, by omega, by omega⟩ dX10_nth_29 ?_
        exact pw_iret C hr dX10_nth_30 ⟨rfl, _, rfl, by have := (hln _ _ hy).1 (hp j (by omega)); rw [show i = j by omega]; exact this.1⟩
      · exfalso; omega
    | succ kk ih =>
      intro j k hk hy
      have hyr := Vl.rg hR hy
      refine pw_iload C dX10_nth_5 rfl ?_
      refine pw_iload_n (i := 2) C dX10_nth_7 rfl rfl ?_
      refine pw_icmp_ge (tgt := 24) C (by omega) (by omega) dX10_nth_8 (by decide) (fun h_41 => ?_) (fun h_41 => ?_)
      · exfalso; omega
      · refine pw_aload_n (i := 0) C dX10_nth_11 rfl rfl (Or.inr ⟨_, rfl⟩) ?_
        refine pw_get (j := 1) C cl_X10 fl_X10_14 (by decide) rfl h0 rfl dX10_nth_12 ?_
        refine pw_stk (st' := [.ref (B 1)]) rfl ?_
        refine pw_iload_n (i := 3) C dX10_nth_15 rfl rfl ?_
        have g_42 := m1 k
        refine pw_iald C l1 ⟨by omega, by omega, by omega⟩ dX10_nth_16 ?_
        refine pw_istore_n (i := 3) (lv' := [(0, .ref b), (1, .int (iZ o)), (2, .int (iZ ((i : Nat) : Int))), (3, .int (iZ (fR k))), (4, .int (iZ ((j : Nat) : Int)))]) C dX10_nth_17 rfl (by decide) rfl ?_
        refine pw_iinc (lv' := [(0, .ref b), (1, .int (iZ o)), (2, .int (iZ ((i : Nat) : Int))), (3, .int (iZ (fR k))), (4, .int (iZ (((j : Nat) : Int) + 1)))]) C dX10_nth_18 rfl (by decide) rfl ?_
        refine pw_goto (tgt := 5) C dX10_nth_21 (by decide) ?_
        rw [show ((j : Nat) : Int) + 1 = ((j + 1 : Nat) : Int) by omega]
        exact ih (j + 1) _ (by omega) (by rw [cdN_p]; exact ((hln _ _ hy).1 (hp j (by omega))).2)
  refine pw_iload_n (i := 1) C dX10_nth_0 rfl rfl ?_
  refine pw_istore_n (i := 3) (lv' := [(0, .ref b), (1, .int (iZ o)), (2, .int (iZ ((i : Nat) : Int))), (3, .int (iZ o))]) C dX10_nth_1 rfl (by decide) rfl ?_
  refine pw_iconst C dX10_nth_2 ?_
  refine pw_istore (lv' := [(0, .ref b), (1, .int (iZ o)), (2, .int (iZ ((i : Nat) : Int))), (3, .int (iZ o)), (4, .int (iZ 0))]) C dX10_nth_3 (by decide) rfl ?_
  exact loop i 0 o (by omega) ho

set_option maxRecDepth 100000 in
set_option maxHeartbeats 4000000 in
/-- term -/
theorem m_X10_term (g : pw_P) (l : Launch) {w : pw_W} {b : Nat} {B : Nat → Nat} {x : Nat → Int} (h0 : w 1000 = (b, some (mdE B x))) {t : Int → Ob} {n : Int} {sN : Nat} {fZ : Int → Int} (hR : RS g w B t n sN fZ) (h7 : x 7 = n) (h10 : x 10 = ((sN : Nat) : Int)) (hK : RK t n) {o : Int} {X : Ob} (ho : Vl t n o X) {i : Nat} (hi : i < 30000) (hp : ∀ j, j ≤ i → obP (cdN j X) = true) : pw_M g l yX10_term cX10_term 3 (some .int) { frames := 1, cells := 0, slots := 0, locals := 24 } [.ref b, .int (iZ o), .int (iZ ((i : Nat) : Int))] w (fun r w' => w = w' ∧ ∃ z, r = some (.int (iZ z)) ∧ Vl t n z (obCar (cdN i X))) := by
  refine pw_M.of (by decide) (Nat.le_of_ble_eq_true rfl) rfl ?_
  intro p e s m args below meth c C hr hn
  refine pw_aload_n (i := 0) C dX10_term_0 rfl rfl (Or.inr ⟨_, rfl⟩) ?_
  refine pw_iload_n (i := 1) C dX10_term_1 rfl rfl ?_
  refine pw_iload_n (i := 2) C dX10_term_2 rfl rfl ?_
  refine pw_callV (As := [.int (iZ o), .int (iZ ((i : Nat) : Int))]) (st := []) C (m_X10_nth g l h0 hR h7 h10 hK ho hi hp) my_X10_nth ml_X10_292 (pw_rec.of C h0 cl_X10.1) rfl ⟨Nat.le_of_ble_eq_true rfl, Nat.le_of_ble_eq_true rfl⟩ ⟨by (try dsimp only); omega, by (try dsimp only); omega⟩ rfl (Nat.le_of_ble_eq_true rfl) dX10_term_3 ?_
  rintro _ _ ⟨rfl, z_1, rfl, z_1v⟩
  refine pw_stk (st' := [.int (iZ z_1)]) rfl ?_
  exact pw_iret C hr dX10_term_6 ⟨rfl, _, rfl, z_1v⟩

set_option maxRecDepth 100000 in
set_option maxHeartbeats 4000000 in
/-- isReserved -/
theorem m_X10_isReserved (g : pw_P) (l : Launch) {w : pw_W} {z : Int} (hz : inI z) : pw_M g l yX10_isReserved cX10_isReserved 1 (some .boolean) { frames := 0, cells := 0, slots := 0, locals := 0 } [.int (iZ z)] w (fun r w' => w = w' ∧ r = some (.int (iZ (b2i (decide (0 ≤ z ∧ z ≤ 16)))))) := by
  refine pw_M.of (by decide) (Nat.le_of_ble_eq_true rfl) rfl ?_
  intro p e s m args below meth c C hr hn
  refine pw_iload_n (i := 0) C dX10_isReserved_0 rfl rfl ?_
  refine pw_if_lt (tgt := 14) C (by omega) dX10_isReserved_1 (by decide) (fun h_1 => ?_) (fun h_1 => ?_)
  · refine pw_iconst C dX10_isReserved_14 ?_
    exact pw_zret C hr (by decide +kernel) dX10_isReserved_15 ⟨rfl, by rw [show decide (0 ≤ z ∧ z ≤ 16) = false from decide_eq_false (by omega)]; rfl⟩
  · refine pw_iload_n (i := 0) C dX10_isReserved_4 rfl rfl ?_
    refine pw_bipush C dX10_isReserved_5 (by decide) ?_
    refine pw_icmp_gt (tgt := 14) C (by omega) (by omega) dX10_isReserved_7 (by decide) (fun h_2 => ?_) (fun h_2 => ?_)
    · refine pw_iconst C dX10_isReserved_14 ?_
      exact pw_zret C hr (by decide +kernel) dX10_isReserved_15 ⟨rfl, by rw [show decide (0 ≤ z ∧ z ≤ 16) = false from decide_eq_false (by omega)]; rfl⟩
    · refine pw_iconst C dX10_isReserved_10 ?_
      refine pw_goto (tgt := 15) C dX10_isReserved_11 (by decide) ?_
      exact pw_zret C hr (by decide +kernel) dX10_isReserved_15 ⟨rfl, by rw [show decide (0 ≤ z ∧ z ≤ 16) = true from decide_eq_true (by omega)]; rfl⟩

theorem pm_lt : ∀ k : Nat, k < 24 → pm k < 24 ∧ (k ≤ 16 ↔ pm k ≤ 16) ∧ (3 ≤ k ∧ k ≤ 16 ↔ 3 ≤ pm k ∧ pm k ≤ 16) ∧ (k ≤ 14 → pm k = k) := by
  intro k hk
  have key : ∀ j : Fin 24, pm j.val < 24 ∧ (j.val ≤ 16 ↔ pm j.val ≤ 16) ∧ (3 ≤ j.val ∧ j.val ≤ 16 ↔ 3 ≤ pm j.val ∧ pm j.val ≤ 16) ∧ (j.val ≤ 14 → pm j.val = j.val) := by decide
  exact key ⟨k, hk⟩
theorem RK.kix {g : pw_P} {w : pw_W} {B : Nat → Nat} {t : Int → Ob} {n z : Int} {s : Nat} {fZ : Int → Int} {X : Ob} (h : RS g w B t n s fZ) (hK : RK t n) (hz : Vl t n z X) : kIx X = if z < 24 then pm z.toNat else 24 := by
  by_cases q : z < 24
  · rw [if_pos q]
    have h0 := hz.1
    have e : X = yK (pm z.toNat) := (RS.inj h hz (hK.v z.toNat (by omega))).mp (by omega)
    rw [e, kIx_k _ (pm_lt _ (by omega)).1]
  · rw [if_neg q, kIx_no]
    intro k hk e
    have key : ∀ j : Fin 24, ∃ i : Fin 24, pm i.val = j.val := by decide
    obtain ⟨i, hi⟩ := key ⟨k, hk⟩
    have := (RS.inj h hz (hK.v i.val i.isLt)).mpr (by rw [e, hi])
    have := i.isLt
    omega
theorem RK.rsv {g : pw_P} {w : pw_W} {B : Nat → Nat} {t : Int → Ob} {n z : Int} {s : Nat} {fZ : Int → Int} {X : Ob} (h : RS g w B t n s fZ) (hK : RK t n) (hz : Vl t n z X) : (z ≤ 16 ↔ kIx X ≤ 16) ∧ (3 ≤ z ∧ z ≤ 16 ↔ 3 ≤ kIx X ∧ kIx X ≤ 16) := by
  have h0 := hz.1
  rw [RK.kix h hK hz]
  by_cases q : z < 24
  · rw [if_pos q]
    have := pm_lt z.toNat (by omega)
    constructor
    · constructor
      · intro a; exact this.2.1.mp (by omega)
      · intro a; have := this.2.1.mpr a; omega
    · constructor
      · intro a; exact this.2.2.1.mp (by omega)
      · intro a; have := this.2.2.1.mpr a; omega
  · rw [if_neg q]; omega
set_option maxRecDepth 100000 in
set_option maxHeartbeats 4000000 in
/-- isNewName -/
theorem m_X10_isNewName (g : pw_P) (l : Launch) {w : pw_W} {b : Nat} {B : Nat → Nat} {x : Nat → Int} (h0 : w 1000 = (b, some (mdE B x))) {t : Int → Ob} {n : Int} {sN : Nat} {fZ : Int → Int} (hR : RS g w B t n sN fZ) (h7 : x 7 = n) (h10 : x 10 = ((sN : Nat) : Int)) (hK : RK t n) {o : Int} {X : Ob} (ho : Vl t n o X) : pw_M g l yX10_isNewName cX10_isNewName 2 (some .boolean) { frames := 1, cells := 0, slots := 0, locals := 21 } [.ref b, .int (iZ o)] w (fun r w' => w = w' ∧ r = some (.int (iZ (b2i (isFN X))))) := by
  refine pw_M.of (by decide) (Nat.le_of_ble_eq_true rfl) rfl ?_
  intro p e s m args below meth c C hr hn
  have hRn := hR.n
  have hor := Vl.rg hR ho
  have hrv := (RK.rsv hR hK ho).1
  refine pw_aload_n (i := 0) C dX10_isNewName_0 rfl rfl (Or.inr ⟨_, rfl⟩) ?_
  refine pw_iload_n (i := 1) C dX10_isNewName_1 rfl rfl ?_
  refine pw_callV (As := [.int (iZ o)]) (st := []) C (m_X10_isSymbol g l h0 hR h7 h10 ho) my_X10_isSymbol ml_X10_268 (pw_rec.of C h0 cl_X10.1) rfl ⟨Nat.le_of_ble_eq_true rfl, Nat.le_of_ble_eq_true rfl⟩ ⟨by (try dsimp only); omega, by (try dsimp only); omega⟩ rfl (Nat.le_of_ble_eq_true rfl) dX10_isNewName_2 ?_
  rintro _ _ ⟨rfl, rfl⟩
  refine pw_stk (st' := [.int (iZ (b2i (obS X)))]) rfl ?_
  refine pw_if_eqB (tgt := 19) C dX10_isNewName_5 (by decide) (fun h_1 => ?_) (fun h_1 => ?_)
  · refine pw_iconst C dX10_isNewName_19 ?_
    exact pw_zret C hr (by decide +kernel) dX10_isNewName_20 ⟨rfl, by rw [show isFN X = false from by unfold isFN; rw [h_1]; rfl]; rfl⟩
  · have hS := h_1
    refine pw_iload_n (i := 1) C dX10_isNewName_8 rfl rfl ?_
    refine pw_callS (As := [.int (iZ o)]) (st := []) C (m_X10_isReserved g l (z := o) (by omega)) my_X10_isReserved ml_X10_411 rfl ⟨Nat.le_of_ble_eq_true rfl, Nat.le_of_ble_eq_true rfl⟩ ⟨by (try dsimp only); omega, by (try dsimp only); omega⟩ rfl (Nat.le_of_ble_eq_true rfl) dX10_isNewName_9 ?_
    rintro _ _ ⟨rfl, rfl⟩
    refine pw_stk (st' := [.int (iZ (b2i (decide (0 ≤ o ∧ o ≤ 16))))]) rfl ?_
    refine pw_if_neB (tgt := 19) C dX10_isNewName_12 (by decide) (fun h_2 => ?_) (fun h_2 => ?_)
    · have hq := of_decide_eq_true h_2
      refine pw_iconst C dX10_isNewName_19 ?_
      exact pw_zret C hr (by decide +kernel) dX10_isNewName_20 ⟨rfl, by rw [show isFN X = false from by unfold isFN; rw [decide_eq_false (by omega), Bool.and_false]]; rfl⟩
    · have hq := of_decide_eq_false h_2
      refine pw_iconst C dX10_isNewName_15 ?_
      refine pw_goto (tgt := 20) C dX10_isNewName_16 (by decide) ?_
      exact pw_zret C hr (by decide +kernel) dX10_isNewName_20 ⟨rfl, by rw [show isFN X = true from by unfold isFN; rw [hS, decide_eq_true (by omega)]; rfl]; rfl⟩

def DfM (fn fm fv fb : Int → Int) (t : Int → Ob) (n : Int) : Nat → List Dn → Prop
  | _, [] => True
  | i, d :: T => Vl t n (fn (i : Int)) d.1 ∧ fm (i : Int) = obLen d.2.1 ∧ VlsI t n fv (6 * (i : Int)) (lsO d.2.1) ∧ Vl t n (fb (i : Int)) d.2.2 ∧ DfM fn fm fv fb t n (i + 1) T
def MdD (g : pw_P) (w : pw_W) (B : Nat → Nat) (t : Int → Ob) (n : Int) (T : List Dn) : Prop :=
  ∃ fn fm fv fb : Int → Int, w 1034 = (B 33, some (AI g 40 fn)) ∧ w 1035 = (B 34, some (AI g 40 fm)) ∧ w 1036 = (B 35, some (AI g 240 fv)) ∧ w 1037 = (B 36, some (AI g 40 fb)) ∧ ((∀ j, inI (fn j)) ∧ (∀ j, inI (fm j)) ∧ (∀ j, inI (fv j)) ∧ (∀ j, inI (fb j))) ∧ DfM fn fm fv fb t n 0 T ∧ T.length ≤ 40
theorem DfM.ext {fn fm fv fb : Int → Int} {t t' : Int → Ob} {n n' : Int} (he : Ext t n t' n') : ∀ {i : Nat} {T : List Dn}, DfM fn fm fv fb t n i T → DfM fn fm fv fb t' n' i T
  | _, [], _ => trivial
  | _, _ :: _, h => ⟨h.1.ext he, h.2.1, h.2.2.1.ext he, h.2.2.2.1.ext he, DfM.ext he h.2.2.2.2⟩
theorem MdD.same {g : pw_P} {w w' : pw_W} {B : Nat → Nat} {t t' : Int → Ob} {n n' : Int} {T : List Dn} (h : MdD g w B t n T) (hf : ∀ k, (1034 ≤ k ∧ k ≤ 1037) → w' k = w k) (he : Ext t n t' n') : MdD g w' B t' n' T := by
  obtain ⟨fn, fm, fv, fb, h1, h2, h3, h4, h5, h6, h7⟩ := h
  exact ⟨fn, fm, fv, fb, (hf _ (by omega)).trans h1, (hf _ (by omega)).trans h2, (hf _ (by omega)).trans h3, (hf _ (by omega)).trans h4, h5, h6.ext he, h7⟩
def dIx : List Dn → Ob → Nat → Option Nat
  | [], _, _ => none
  | d :: T, X, i => if d.1 = X then some i else dIx T X (i + 1)
def oIx : Option Nat → Int → Int
  | some i, c => c + (i : Int)
  | none, _ => -1
theorem dIx_get : ∀ {T : List Dn} {X : Ob} {i j : Nat}, dIx T X i = some j → ∃ d, T[j - i]? = some d ∧ d.1 = X ∧ i ≤ j ∧ j < i + T.length ∧ dLk T X = some d
  | d :: T, X, i, j, h => by
    simp only [dIx] at h
    by_cases e : d.1 = X
    · rw [if_pos e] at h
      have := Option.some.inj h
      subst this
      exact ⟨d, by simp, e, Nat.le_refl _, by simp, by simp only [dLk]; rw [if_pos e]⟩
    · rw [if_neg e] at h
      obtain ⟨d', h1, h2, h3, h4, h5⟩ := dIx_get h
      refine ⟨d', ?_, h2, by omega, by simp only [List.length_cons]; omega, by simp only [dLk]; rw [if_neg e]; exact h5⟩
      rw [show j - i = (j - (i + 1)) + 1 by omega, List.getElem?_cons_succ]; exact h1
theorem dIx_none : ∀ {T : List Dn} {X : Ob} {i : Nat}, dIx T X i = none ↔ dLk T X = none
  | [], X, i => by simp [dIx, dLk]
  | d :: T, X, i => by
    simp only [dIx, dLk]
    by_cases e : d.1 = X
    · rw [if_pos e, if_pos e]; simp
    · rw [if_neg e, if_neg e]; exact dIx_none
theorem DfM.get {fn fm fv fb : Int → Int} {t : Int → Ob} {n : Int} {d : Dn} : ∀ {i j : Nat} {T : List Dn}, DfM fn fm fv fb t n i T → T[j]? = some d → Vl t n (fn ((i + j : Nat) : Int)) d.1 ∧ fm ((i + j : Nat) : Int) = obLen d.2.1 ∧ VlsI t n fv (6 * ((i + j : Nat) : Int)) (lsO d.2.1) ∧ Vl t n (fb ((i + j : Nat) : Int)) d.2.2
  | i, 0, _ :: T, h, hj => by cases hj; exact ⟨h.1, h.2.1, h.2.2.1, h.2.2.2.1⟩
  | i, j + 1, _ :: T, h, hj => by
    have := DfM.get (j := j) h.2.2.2.2 (by simpa using hj)
    rw [show i + 1 + j = i + (j + 1) by omega] at this
    exact this
set_option maxRecDepth 100000 in
set_option maxHeartbeats 4000000 in
/-- definition -/
theorem m_X10_definition (g : pw_P) (l : Launch) {w : pw_W} {b : Nat} {B : Nat → Nat} {x : Nat → Int} (h0 : w 1000 = (b, some (mdE B x))) {t : Int → Ob} {n : Int} {sN : Nat} {fZ : Int → Int} (hR : RS g w B t n sN fZ) (h7 : x 7 = n) (h10 : x 10 = ((sN : Nat) : Int)) (hK : RK t n) {T : List Dn} (hD : MdD g w B t n T) (h32 : x 32 = ((T.length : Nat) : Int)) {o : Int} {X : Ob} (ho : Vl t n o X) : pw_M g l yX10_definition cX10_definition 3 (some .int) { frames := 0, cells := 0, slots := 0, locals := 0 } [.ref b, .int (iZ o)] w (fun r w' => w = w' ∧ r = some (.int (iZ (oIx (dIx T X 0) 0)))) := by
  refine pw_M.of (by decide) (Nat.le_of_ble_eq_true rfl) rfl ?_
  intro p e s m args below meth c C hr hn
  have hRn := hR.n
  have hor := Vl.rg hR ho
  obtain ⟨fn, fm, fv, fb, d1, d2, d3, d4, ⟨w1n, w2n, w3n, w4n⟩, hDf, hT40⟩ := id hD
  have loop : ∀ (kk j : Nat), j + kk = T.length → dIx (T.drop j) X j = dIx T X 0 → pw_G g p l e { frames := 0, cells := 0, slots := 0, locals := 0 } s m args below meth c 3 (pw_Q g below (fun r w' => w = w' ∧ r = some (.int (iZ (oIx (dIx T X 0) 0)))) args s { frames := 0, cells := 0, slots := 0, locals := 0 }) 0 0 2 [(0, .ref b), (1, .int (iZ o)), (2, .int (iZ ((j : Nat) : Int)))] [] w := by
    intro kk
    induction kk with
    | zero =>
      intro j hk hq
      refine pw_iload_n (i := 2) C dX10_definition_2 rfl rfl ?_
      refine pw_aload_n (i := 0) C dX10_definition_3 rfl rfl (Or.inr ⟨_, rfl⟩) ?_
      refine pw_get (j := 32) C cl_X10 fl_X10_295 (by decide) rfl h0 rfl dX10_definition_4 ?_
      refine pw_stk (st' := [.int (iZ (x 32)), .int (iZ ((j : Nat) : Int))]) rfl ?_
      refine pw_stk (st' := [.int (iZ ((T.length : Nat) : Int)), .int (iZ ((j : Nat) : Int))]) (by rw [h32]) ?_
      refine pw_icmp_ge (tgt := 28) C (by omega) (by omega) dX10_definition_7 (by decide) (fun h_11 => ?_) (fun h_11 => ?_)
      · refine pw_iconst C dX10_definition_28 ?_
        exact pw_iret C hr dX10_definition_29 ⟨rfl, by rw [← hq, show T.drop j = [] from List.drop_eq_nil_iff.mpr (by omega)]; rfl⟩
      · exfalso; omega
    | succ kk ih =>
      intro j hk hq
      obtain ⟨d, hd⟩ : ∃ d, T[j]? = some d := ⟨_, List.getElem?_eq_getElem (by omega)⟩
      have hdr : T.drop j = d :: T.drop (j + 1) := by obtain ⟨hj, rfl⟩ := List.getElem?_eq_some_iff.mp hd; exact List.drop_eq_getElem_cons hj
      have hdj := DfM.get hDf hd
      rw [Nat.zero_add] at hdj
      refine pw_iload_n (i := 2) C dX10_definition_2 rfl rfl ?_
      refine pw_aload_n (i := 0) C dX10_definition_3 rfl rfl (Or.inr ⟨_, rfl⟩) ?_
      refine pw_get (j := 32) C cl_X10 fl_X10_295 (by decide) rfl h0 rfl dX10_definition_4 ?_
      refine pw_stk (st' := [.int (iZ (x 32)), .int (iZ ((j : Nat) : Int))]) rfl ?_
      refine pw_stk (st' := [.int (iZ ((T.length : Nat) : Int)), .int (iZ ((j : Nat) : Int))]) (by rw [h32]) ?_
      refine pw_icmp_ge (tgt := 28) C (by omega) (by omega) dX10_definition_7 (by decide) (fun h_41 => ?_) (fun h_41 => ?_)
      · exfalso; omega
      · refine pw_aload_n (i := 0) C dX10_definition_10 rfl rfl (Or.inr ⟨_, rfl⟩) ?_
        refine pw_get (j := 33) C cl_X10 fl_X10_74 (by decide) rfl h0 rfl dX10_definition_11 ?_
        refine pw_stk (st' := [.ref (B 33)]) rfl ?_
        refine pw_iload_n (i := 2) C dX10_definition_14 rfl rfl ?_
        have g_42 := w1n ((j : Nat) : Int)
        refine pw_iald C d1 ⟨by omega, by omega, by omega⟩ dX10_definition_15 ?_
        refine pw_iload_n (i := 1) C dX10_definition_16 rfl rfl ?_
        refine pw_icmp_ne (tgt := 22) C (by omega) (by omega) dX10_definition_17 (by decide) (fun h_43 => ?_) (fun h_43 => ?_)
        · refine pw_iinc (lv' := [(0, .ref b), (1, .int (iZ o)), (2, .int (iZ (((j : Nat) : Int) + 1)))]) C dX10_definition_22 rfl (by decide) rfl ?_
          refine pw_goto (tgt := 2) C dX10_definition_25 (by decide) ?_
          rw [show ((j : Nat) : Int) + 1 = ((j + 1 : Nat) : Int) by omega]
          exact ih (j + 1) (by omega) (by rw [← hq, hdr, dIx, if_neg (fun e => absurd ((RS.inj hR hdj.1 ho).mpr e) (by omega))])
        · refine pw_iload_n (i := 2) C dX10_definition_20 rfl rfl ?_
          exact pw_iret C hr dX10_definition_21 ⟨rfl, by rw [← hq, hdr, dIx, if_pos ((RS.inj hR hdj.1 ho).mp (by omega))]; show _ = some (Value.int (iZ (0 + ((j : Nat) : Int)))); rw [Int.zero_add]⟩
  refine pw_iconst C dX10_definition_0 ?_
  refine pw_istore_n (i := 2) (lv' := [(0, .ref b), (1, .int (iZ o)), (2, .int (iZ 0))]) C dX10_definition_1 rfl (by decide) rfl ?_
  exact loop T.length 0 (by omega) rfl

/-- what a name is to the reference: its own number, 99 the one that comes, 100 and on those that were told, -1 nothing -/
def fnZ (cm z : Int) (T : List Dn) (X : Ob) : Int := if 3 ≤ z ∧ z ≤ 16 then z else if z = cm then 99 else oIx (dIx T X 0) 100
set_option maxRecDepth 100000 in
set_option maxHeartbeats 4000000 in
/-- functionOf -/
theorem m_X10_functionOf (g : pw_P) (l : Launch) {w : pw_W} {b : Nat} {B : Nat → Nat} {x : Nat → Int} (h0 : w 1000 = (b, some (mdE B x))) {t : Int → Ob} {n : Int} {sN : Nat} {fZ : Int → Int} (hR : RS g w B t n sN fZ) (h7 : x 7 = n) (h10 : x 10 = ((sN : Nat) : Int)) (hK : RK t n) {T : List Dn} (hD : MdD g w B t n T) (h32 : x 32 = ((T.length : Nat) : Int)) {o : Int} {X : Ob} (ho : Vl t n o X) {cm : Int} (h37 : x 37 = cm) (hcm : -1 ≤ cm ∧ cm < 40000) : pw_M g l yX10_functionOf cX10_functionOf 3 (some .int) { frames := 0, cells := 0, slots := 0, locals := 0 } [.ref b, .int (iZ o)] w (fun r w' => w = w' ∧ r = some (.int (iZ (fnZ cm o T X)))) := by
  refine pw_M.of (by decide) (Nat.le_of_ble_eq_true rfl) rfl ?_
  intro p e s m args below meth c C hr hn
  have hRn := hR.n
  have hor := Vl.rg hR ho
  obtain ⟨fn, fm, fv, fb, d1, d2, d3, d4, ⟨w1n, w2n, w3n, w4n⟩, hDf, hT40⟩ := id hD
  refine pw_iload_n (i := 1) C dX10_functionOf_0 rfl rfl ?_
  refine pw_iconst C dX10_functionOf_1 ?_
  refine pw_icmp_lt (tgt := 13) C (by omega) (by omega) dX10_functionOf_2 (by decide) (fun h_101 => ?_) (fun h_101 => ?_)
  · refine pw_iload_n (i := 1) C dX10_functionOf_13 rfl rfl ?_
    refine pw_aload_n (i := 0) C dX10_functionOf_14 rfl rfl (Or.inr ⟨_, rfl⟩) ?_
    refine pw_get (j := 37) C cl_X10 fl_X10_86 (by decide) rfl h0 rfl dX10_functionOf_15 ?_
    refine pw_stk (st' := [.int (iZ (x 37)), .int (iZ o)]) rfl ?_
    refine pw_stk (st' := [.int (iZ cm), .int (iZ o)]) (by rw [h37]) ?_
    refine pw_icmp_ne (tgt := 24) C (by omega) (by omega) dX10_functionOf_18 (by decide) (fun h_102 => ?_) (fun h_102 => ?_)
    · refine pw_iconst C dX10_functionOf_24 ?_
      refine pw_istore_n (i := 2) (lv' := [(0, .ref b), (1, .int (iZ o)), (2, .int (iZ 0))]) C dX10_functionOf_25 rfl (by decide) rfl ?_
      have loop : ∀ (kk j : Nat), j + kk = T.length → dIx (T.drop j) X j = dIx T X 0 → pw_G g p l e { frames := 0, cells := 0, slots := 0, locals := 0 } s m args below meth c 3 (pw_Q g below (fun r w' => w = w' ∧ r = some (.int (iZ (fnZ cm o T X)))) args s { frames := 0, cells := 0, slots := 0, locals := 0 }) 0 0 26 [(0, .ref b), (1, .int (iZ o)), (2, .int (iZ ((j : Nat) : Int)))] [] w := by
        intro kk
        induction kk with
        | zero =>
          intro j hk hq
          refine pw_iload_n (i := 2) C dX10_functionOf_26 rfl rfl ?_
          refine pw_aload_n (i := 0) C dX10_functionOf_27 rfl rfl (Or.inr ⟨_, rfl⟩) ?_
          refine pw_get (j := 32) C cl_X10 fl_X10_295 (by decide) rfl h0 rfl dX10_functionOf_28 ?_
          refine pw_stk (st' := [.int (iZ (x 32)), .int (iZ ((j : Nat) : Int))]) rfl ?_
          refine pw_stk (st' := [.int (iZ ((T.length : Nat) : Int)), .int (iZ ((j : Nat) : Int))]) (by rw [h32]) ?_
          refine pw_icmp_ge (tgt := 55) C (by omega) (by omega) dX10_functionOf_31 (by decide) (fun h_11 => ?_) (fun h_11 => ?_)
          · refine pw_iconst C dX10_functionOf_55 ?_
            exact pw_iret C hr dX10_functionOf_56 ⟨rfl, by unfold fnZ; rw [if_neg (by omega), if_neg (by omega), ← hq, show T.drop j = [] from List.drop_eq_nil_iff.mpr (by omega)]; rfl⟩
          · exfalso; omega
        | succ kk ih =>
          intro j hk hq
          obtain ⟨d, hd⟩ : ∃ d, T[j]? = some d := ⟨_, List.getElem?_eq_getElem (by omega)⟩
          have hdr : T.drop j = d :: T.drop (j + 1) := by obtain ⟨hj, rfl⟩ := List.getElem?_eq_some_iff.mp hd; exact List.drop_eq_getElem_cons hj
          have hdj := DfM.get hDf hd
          rw [Nat.zero_add] at hdj
          refine pw_iload_n (i := 2) C dX10_functionOf_26 rfl rfl ?_
          refine pw_aload_n (i := 0) C dX10_functionOf_27 rfl rfl (Or.inr ⟨_, rfl⟩) ?_
          refine pw_get (j := 32) C cl_X10 fl_X10_295 (by decide) rfl h0 rfl dX10_functionOf_28 ?_
          refine pw_stk (st' := [.int (iZ (x 32)), .int (iZ ((j : Nat) : Int))]) rfl ?_
          refine pw_stk (st' := [.int (iZ ((T.length : Nat) : Int)), .int (iZ ((j : Nat) : Int))]) (by rw [h32]) ?_
          refine pw_icmp_ge (tgt := 55) C (by omega) (by omega) dX10_functionOf_31 (by decide) (fun h_41 => ?_) (fun h_41 => ?_)
          · exfalso; omega
          · refine pw_aload_n (i := 0) C dX10_functionOf_34 rfl rfl (Or.inr ⟨_, rfl⟩) ?_
            refine pw_get (j := 33) C cl_X10 fl_X10_74 (by decide) rfl h0 rfl dX10_functionOf_35 ?_
            refine pw_stk (st' := [.ref (B 33)]) rfl ?_
            refine pw_iload_n (i := 2) C dX10_functionOf_38 rfl rfl ?_
            have g_42 := w1n ((j : Nat) : Int)
            refine pw_iald C d1 ⟨by omega, by omega, by omega⟩ dX10_functionOf_39 ?_
            refine pw_iload_n (i := 1) C dX10_functionOf_40 rfl rfl ?_
            refine pw_icmp_ne (tgt := 49) C (by omega) (by omega) dX10_functionOf_41 (by decide) (fun h_43 => ?_) (fun h_43 => ?_)
            · refine pw_iinc (lv' := [(0, .ref b), (1, .int (iZ o)), (2, .int (iZ (((j : Nat) : Int) + 1)))]) C dX10_functionOf_49 rfl (by decide) rfl ?_
              refine pw_goto (tgt := 26) C dX10_functionOf_52 (by decide) ?_
              rw [show ((j : Nat) : Int) + 1 = ((j + 1 : Nat) : Int) by omega]
              exact ih (j + 1) (by omega) (by rw [← hq, hdr, dIx, if_neg (fun e => absurd ((RS.inj hR hdj.1 ho).mpr e) (by omega))])
            · refine pw_bipush C dX10_functionOf_44 (by decide) ?_
              refine pw_iload_n (i := 2) C dX10_functionOf_46 rfl rfl ?_
              refine pw_iadd C dX10_functionOf_47 ?_
              exact pw_iret C hr dX10_functionOf_48 ⟨rfl, by unfold fnZ; rw [if_neg (by omega), if_neg (by omega), ← hq, hdr, dIx, if_pos ((RS.inj hR hdj.1 ho).mp (by omega))]; rfl⟩
      exact loop T.length 0 (by omega) rfl
    · refine pw_bipush C dX10_functionOf_21 (by decide) ?_
      exact pw_iret C hr dX10_functionOf_23 ⟨rfl, by unfold fnZ; rw [if_neg (by omega), if_pos (by omega)]⟩
  · refine pw_iload_n (i := 1) C dX10_functionOf_5 rfl rfl ?_
    refine pw_bipush C dX10_functionOf_6 (by decide) ?_
    refine pw_icmp_gt (tgt := 13) C (by omega) (by omega) dX10_functionOf_8 (by decide) (fun h_103 => ?_) (fun h_103 => ?_)
    · refine pw_iload_n (i := 1) C dX10_functionOf_13 rfl rfl ?_
      refine pw_aload_n (i := 0) C dX10_functionOf_14 rfl rfl (Or.inr ⟨_, rfl⟩) ?_
      refine pw_get (j := 37) C cl_X10 fl_X10_86 (by decide) rfl h0 rfl dX10_functionOf_15 ?_
      refine pw_stk (st' := [.int (iZ (x 37)), .int (iZ o)]) rfl ?_
      refine pw_stk (st' := [.int (iZ cm), .int (iZ o)]) (by rw [h37]) ?_
      refine pw_icmp_ne (tgt := 24) C (by omega) (by omega) dX10_functionOf_18 (by decide) (fun h_104 => ?_) (fun h_104 => ?_)
      · refine pw_iconst C dX10_functionOf_24 ?_
        refine pw_istore_n (i := 2) (lv' := [(0, .ref b), (1, .int (iZ o)), (2, .int (iZ 0))]) C dX10_functionOf_25 rfl (by decide) rfl ?_
        have loop : ∀ (kk j : Nat), j + kk = T.length → dIx (T.drop j) X j = dIx T X 0 → pw_G g p l e { frames := 0, cells := 0, slots := 0, locals := 0 } s m args below meth c 3 (pw_Q g below (fun r w' => w = w' ∧ r = some (.int (iZ (fnZ cm o T X)))) args s { frames := 0, cells := 0, slots := 0, locals := 0 }) 0 0 26 [(0, .ref b), (1, .int (iZ o)), (2, .int (iZ ((j : Nat) : Int)))] [] w := by
          intro kk
          induction kk with
          | zero =>
            intro j hk hq
            refine pw_iload_n (i := 2) C dX10_functionOf_26 rfl rfl ?_
            refine pw_aload_n (i := 0) C dX10_functionOf_27 rfl rfl (Or.inr ⟨_, rfl⟩) ?_
            refine pw_get (j := 32) C cl_X10 fl_X10_295 (by decide) rfl h0 rfl dX10_functionOf_28 ?_
            refine pw_stk (st' := [.int (iZ (x 32)), .int (iZ ((j : Nat) : Int))]) rfl ?_
            refine pw_stk (st' := [.int (iZ ((T.length : Nat) : Int)), .int (iZ ((j : Nat) : Int))]) (by rw [h32]) ?_
            refine pw_icmp_ge (tgt := 55) C (by omega) (by omega) dX10_functionOf_31 (by decide) (fun h_11 => ?_) (fun h_11 => ?_)
            · refine pw_iconst C dX10_functionOf_55 ?_
              exact pw_iret C hr dX10_functionOf_56 ⟨rfl, by unfold fnZ; rw [if_neg (by omega), if_neg (by omega), ← hq, show T.drop j = [] from List.drop_eq_nil_iff.mpr (by omega)]; rfl⟩
            · exfalso; omega
          | succ kk ih =>
            intro j hk hq
            obtain ⟨d, hd⟩ : ∃ d, T[j]? = some d := ⟨_, List.getElem?_eq_getElem (by omega)⟩
            have hdr : T.drop j = d :: T.drop (j + 1) := by obtain ⟨hj, rfl⟩ := List.getElem?_eq_some_iff.mp hd; exact List.drop_eq_getElem_cons hj
            have hdj := DfM.get hDf hd
            rw [Nat.zero_add] at hdj
            refine pw_iload_n (i := 2) C dX10_functionOf_26 rfl rfl ?_
            refine pw_aload_n (i := 0) C dX10_functionOf_27 rfl rfl (Or.inr ⟨_, rfl⟩) ?_
            refine pw_get (j := 32) C cl_X10 fl_X10_295 (by decide) rfl h0 rfl dX10_functionOf_28 ?_
            refine pw_stk (st' := [.int (iZ (x 32)), .int (iZ ((j : Nat) : Int))]) rfl ?_
            refine pw_stk (st' := [.int (iZ ((T.length : Nat) : Int)), .int (iZ ((j : Nat) : Int))]) (by rw [h32]) ?_
            refine pw_icmp_ge (tgt := 55) C (by omega) (by omega) dX10_functionOf_31 (by decide) (fun h_41 => ?_) (fun h_41 => ?_)
            · exfalso; omega
            · refine pw_aload_n (i := 0) C dX10_functionOf_34 rfl rfl (Or.inr ⟨_, rfl⟩) ?_
              refine pw_get (j := 33) C cl_X10 fl_X10_74 (by decide) rfl h0 rfl dX10_functionOf_35 ?_
              refine pw_stk (st' := [.ref (B 33)]) rfl ?_
              refine pw_iload_n (i := 2) C dX10_functionOf_38 rfl rfl ?_
              have g_42 := w1n ((j : Nat) : Int)
              refine pw_iald C d1 ⟨by omega, by omega, by omega⟩ dX10_functionOf_39 ?_
              refine pw_iload_n (i := 1) C dX10_functionOf_40 rfl rfl ?_
              refine pw_icmp_ne (tgt := 49) C (by omega) (by omega) dX10_functionOf_41 (by decide) (fun h_43 => ?_) (fun h_43 => ?_)
              · refine pw_iinc (lv' := [(0, .ref b), (1, .int (iZ o)), (2, .int (iZ (((j : Nat) : Int) + 1)))]) C dX10_functionOf_49 rfl (by decide) rfl ?_
                refine pw_goto (tgt := 26) C dX10_functionOf_52 (by decide) ?_
                rw [show ((j : Nat) : Int) + 1 = ((j + 1 : Nat) : Int) by omega]
                exact ih (j + 1) (by omega) (by rw [← hq, hdr, dIx, if_neg (fun e => absurd ((RS.inj hR hdj.1 ho).mpr e) (by omega))])
              · refine pw_bipush C dX10_functionOf_44 (by decide) ?_
                refine pw_iload_n (i := 2) C dX10_functionOf_46 rfl rfl ?_
                refine pw_iadd C dX10_functionOf_47 ?_
                exact pw_iret C hr dX10_functionOf_48 ⟨rfl, by unfold fnZ; rw [if_neg (by omega), if_neg (by omega), ← hq, hdr, dIx, if_pos ((RS.inj hR hdj.1 ho).mp (by omega))]; rfl⟩
        exact loop T.length 0 (by omega) rfl
      · refine pw_bipush C dX10_functionOf_21 (by decide) ?_
        exact pw_iret C hr dX10_functionOf_23 ⟨rfl, by unfold fnZ; rw [if_neg (by omega), if_pos (by omega)]⟩
    · refine pw_iload_n (i := 1) C dX10_functionOf_11 rfl rfl ?_
      exact pw_iret C hr dX10_functionOf_12 ⟨rfl, by unfold fnZ; rw [if_pos (by omega)]⟩

def mnZ (cn fz : Int) (T : List Dn) : Int := if fz = 3 then 3 else if fz ≤ 9 then 2 else if fz ≤ 16 then 1 else if fz = 99 then cn else match T[(fz - 100).toNat]? with | some d => obLen d.2.1 | none => 0
set_option maxRecDepth 100000 in
set_option maxHeartbeats 4000000 in
/-- manyOf -/
theorem m_X10_manyOf (g : pw_P) (l : Launch) {w : pw_W} {b : Nat} {B : Nat → Nat} {x : Nat → Int} (h0 : w 1000 = (b, some (mdE B x))) {t : Int → Ob} {n : Int} {sN : Nat} {fZ : Int → Int} (hR : RS g w B t n sN fZ) (h7 : x 7 = n) (h10 : x 10 = ((sN : Nat) : Int)) (hK : RK t n) {T : List Dn} (hD : MdD g w B t n T) (h32 : x 32 = ((T.length : Nat) : Int)) {cn fz : Int} (h38 : x 38 = cn) (hfz : (3 ≤ fz ∧ fz ≤ 16) ∨ fz = 99 ∨ (100 ≤ fz ∧ fz < 100 + T.length)) : pw_M g l yX10_manyOf cX10_manyOf 2 (some .int) { frames := 0, cells := 0, slots := 0, locals := 0 } [.ref b, .int (iZ fz)] w (fun r w' => w = w' ∧ r = some (.int (iZ (mnZ cn fz T)))) := by
  refine pw_M.of (by decide) (Nat.le_of_ble_eq_true rfl) rfl ?_
  intro p e s m args below meth c C hr hn
  obtain ⟨fn, fm, fv, fb, d1, d2, d3, d4, ⟨w1n, w2n, w3n, w4n⟩, hDf, hT40⟩ := id hD
  refine pw_iload_n (i := 1) C dX10_manyOf_0 rfl rfl ?_
  refine pw_iconst C dX10_manyOf_1 ?_
  refine pw_icmp_ne (tgt := 7) C (by omega) (by omega) dX10_manyOf_2 (by decide) (fun h_1 => ?_) (fun h_1 => ?_)
  · refine pw_iload_n (i := 1) C dX10_manyOf_7 rfl rfl ?_
    refine pw_bipush C dX10_manyOf_8 (by decide) ?_
    refine pw_icmp_gt (tgt := 15) C (by omega) (by omega) dX10_manyOf_10 (by decide) (fun h_2 => ?_) (fun h_2 => ?_)
    · refine pw_iload_n (i := 1) C dX10_manyOf_15 rfl rfl ?_
      refine pw_bipush C dX10_manyOf_16 (by decide) ?_
      refine pw_icmp_gt (tgt := 23) C (by omega) (by omega) dX10_manyOf_18 (by decide) (fun h_3 => ?_) (fun h_3 => ?_)
      · refine pw_iload_n (i := 1) C dX10_manyOf_23 rfl rfl ?_
        refine pw_bipush C dX10_manyOf_24 (by decide) ?_
        refine pw_icmp_ne (tgt := 36) C (by omega) (by omega) dX10_manyOf_26 (by decide) (fun h_4 => ?_) (fun h_4 => ?_)
        · refine pw_aload_n (i := 0) C dX10_manyOf_36 rfl rfl (Or.inr ⟨_, rfl⟩) ?_
          refine pw_get (j := 34) C cl_X10 fl_X10_77 (by decide) rfl h0 rfl dX10_manyOf_37 ?_
          refine pw_stk (st' := [.ref (B 34)]) rfl ?_
          refine pw_iload_n (i := 1) C dX10_manyOf_40 rfl rfl ?_
          refine pw_bipush C dX10_manyOf_41 (by decide) ?_
          refine pw_isub C dX10_manyOf_43 ?_
          have g_5 := w2n (fz - 100)
          refine pw_iald C d2 ⟨by omega, by omega, by omega⟩ dX10_manyOf_44 ?_
          obtain ⟨d, hd⟩ : ∃ d, T[(fz - 100).toNat]? = some d := ⟨_, List.getElem?_eq_getElem (by omega)⟩
          have hdj := DfM.get hDf hd
          rw [Nat.zero_add, show (((fz - 100).toNat : Nat) : Int) = fz - 100 by omega] at hdj
          exact pw_iret C hr dX10_manyOf_45 ⟨rfl, by unfold mnZ; rw [if_neg (by omega), if_neg (by omega), if_neg (by omega), if_neg (by omega), hd, hdj.2.1]⟩
        · refine pw_aload_n (i := 0) C dX10_manyOf_29 rfl rfl (Or.inr ⟨_, rfl⟩) ?_
          refine pw_get (j := 38) C cl_X10 fl_X10_298 (by decide) rfl h0 rfl dX10_manyOf_30 ?_
          refine pw_stk (st' := [.int (iZ (x 38))]) rfl ?_
          refine pw_stk (st' := [.int (iZ cn)]) (by rw [h38]) ?_
          refine pw_goto (tgt := 45) C dX10_manyOf_33 (by decide) ?_
          exact pw_iret C hr dX10_manyOf_45 ⟨rfl, by unfold mnZ; rw [if_neg (by omega), if_neg (by omega), if_neg (by omega), if_pos (by omega)]⟩
      · refine pw_iconst C dX10_manyOf_21 ?_
        exact pw_iret C hr dX10_manyOf_22 ⟨rfl, by unfold mnZ; rw [if_neg (by omega), if_neg (by omega), if_pos (by omega)]⟩
    · refine pw_iconst C dX10_manyOf_13 ?_
      exact pw_iret C hr dX10_manyOf_14 ⟨rfl, by unfold mnZ; rw [if_neg (by omega), if_pos (by omega)]⟩
  · refine pw_iconst C dX10_manyOf_5 ?_
    exact pw_iret C hr dX10_manyOf_6 ⟨rfl, by unfold mnZ; rw [if_pos (by omega)]⟩

