/-- the items of the open lists, without their lasts -/
def itF : List Rf → List Ob
  | [] => []
  | f :: F => itF F ++ f.2.1.reverse
def FrM (so fr st la : Int → Int) (t : Int → Ob) (n : Int) : List Rf → Prop
  | [] => True
  | f :: F => so ((F.length : Nat) : Int) = (if f.1 = 3 then 1 else 0) ∧ (f.1 ≠ 3 → st ((F.length : Nat) : Int) = ((f.1 : Nat) : Int)) ∧ fr ((F.length : Nat) : Int) = (((itF F).length : Nat) : Int) ∧ (f.1 = 2 → Vl t n (la ((F.length : Nat) : Int)) f.2.2) ∧ FrM so fr st la t n F
theorem FrM.keep {so fr st la so' fr' st' la' : Int → Int} {t t' : Int → Ob} {n n' : Int} (he : Ext t n t' n') : ∀ {F : List Rf}, FrM so fr st la t n F → (∀ j : Int, 0 ≤ j → j < F.length → so' j = so j ∧ fr' j = fr j ∧ st' j = st j ∧ la' j = la j) → FrM so' fr' st' la' t' n' F
  | [], _, _ => trivial
  | f :: F, h, hk => by
    obtain ⟨k1, k2, k3, k4⟩ := hk ((F.length : Nat) : Int) (by omega) (by simp only [List.length_cons]; omega)
    exact ⟨k1.trans h.1, fun q => k3.trans (h.2.1 q), k2.trans h.2.2.1, fun q => by rw [k4]; exact (h.2.2.2.1 q).ext he, FrM.keep he h.2.2.2.2 (fun j j0 j1 => hk j j0 (by simp only [List.length_cons]; omega))⟩
def MdA (g : pw_P) (w : pw_W) (B : Nat → Nat) (t : Int → Ob) (n : Int) (F : List Rf) : Prop :=
  ∃ so fr st la it : Int → Int, w 1024 = (B 23, some (AI g 40 so)) ∧ w 1025 = (B 24, some (AI g 40 fr)) ∧ w 1026 = (B 25, some (AI g 40 st)) ∧ w 1027 = (B 26, some (AI g 40 la)) ∧ w 1029 = (B 28, some (AI g 1100 it)) ∧ ((∀ j, inI (so j)) ∧ (∀ j, inI (fr j)) ∧ (∀ j, inI (st j)) ∧ (∀ j, inI (la j)) ∧ (∀ j, inI (it j))) ∧ FrM so fr st la t n F ∧ VlsI t n it 0 (itF F)
def MdX (x : Nat → Int) (t : Int → Ob) (n : Int) (dn : Option Ob) (F : List Rf) : Prop := x 27 = ((F.length : Nat) : Int) ∧ x 29 = (((itF F).length : Nat) : Int) ∧ x 31 = b2i dn.isSome ∧ ∀ v, dn = some v → Vl t n (x 30) v
theorem MdA.same {g : pw_P} {w w' : pw_W} {B : Nat → Nat} {t t' : Int → Ob} {n n' : Int} {F : List Rf} (h : MdA g w B t n F) (hf : ∀ k, (k = 1024 ∨ k = 1025 ∨ k = 1026 ∨ k = 1027 ∨ k = 1029) → w' k = w k) (he : Ext t n t' n') : MdA g w' B t' n' F := by
  obtain ⟨so, fr, st, la, it, b1, b2, b3, b4, b5, hr, hF, hI⟩ := h
  exact ⟨so, fr, st, la, it, (hf _ (by omega)).trans b1, (hf _ (by omega)).trans b2, (hf _ (by omega)).trans b3, (hf _ (by omega)).trans b4, (hf _ (by omega)).trans b5, hr, hF.keep he (fun _ _ _ => ⟨rfl, rfl, rfl, rfl⟩), hI.ext he⟩
abbrev rdX (x : Nat → Int) (n s o i h d : Int) : Nat → Int := va_up (va_up (va_up (va_up (va_up (va_up x 7 n) 10 s) 27 o) 29 i) 30 h) 31 d
theorem itF_le : ∀ F : List Rf, (itF F).length ≤ icn F
  | [] => Nat.le_refl _
  | f :: F => by have := itF_le F; simp only [itF, icn, icF, List.length_append, List.length_reverse]; omega
def rFr (w w' : pw_W) : Prop := ∀ k, (k < 1000 ∨ k = 1008 ∨ (1010 < k ∧ k < 1024) ∨ k = 1028 ∨ 1029 < k) → w' k = w k
theorem ne_cons {F : List Rf} (h : 0 < F.length) : ∃ q F2, F = q :: F2 := by
  cases F with
  | nil => exact absurd h (by simp)
  | cons q F2 => exact ⟨q, F2, rfl⟩
theorem mBeg_0 {dn : Option Ob} {F : List Rf} (h : F.length = 0) : mBeg dn F = !dn.isSome := by
  cases F with
  | nil => cases dn <;> rfl
  | cons q F => simp at h
set_option maxRecDepth 100000 in
set_option maxHeartbeats 4000000 in
/-- mayBegin -/
theorem m_X10_mayBegin (g : pw_P) (l : Launch) {w : pw_W} {b : Nat} {B : Nat → Nat} {x : Nat → Int} (h0 : w 1000 = (b, some (mdE B x))) {t : Int → Ob} {n : Int} {dn : Option Ob} {F : List Rf} (hA : MdA g w B t n F) (hX : MdX x t n dn F) (hFl : F.length ≤ 40) (hqk : ∀ q ∈ F, q.1 ≤ 3) : pw_M g l yX10_mayBegin cX10_mayBegin 1 (some .boolean) { frames := 0, cells := 0, slots := 0, locals := 0 } [.ref b] w (fun r w' => w = w' ∧ r = some (.int (iZ (b2i (mBeg dn F))))) := by
  refine pw_M.of (by decide) (Nat.le_of_ble_eq_true rfl) rfl ?_
  intro p e s m args below meth c C hr hn
  obtain ⟨so, fr, st, la, it, b1, b2, b3, b4, b5, ⟨v1, v2, v3, v4, v5⟩, hFr, hIt⟩ := id hA
  obtain ⟨x27, x29, x31, x30⟩ := id hX
  refine pw_aload_n (i := 0) C dX10_mayBegin_0 rfl rfl (Or.inr ⟨_, rfl⟩) ?_
  refine pw_get (j := 27) C cl_X10 fl_X10_210 (by decide) rfl h0 rfl dX10_mayBegin_1 ?_
  refine pw_stk (st' := [.int (iZ (x 27))]) rfl ?_
  refine pw_stk (st' := [.int (iZ ((F.length : Nat) : Int))]) (by rw [x27]) ?_
  refine pw_if_ne (tgt := 22) C (by omega) dX10_mayBegin_4 (by decide) (fun h_1 => ?_) (fun h_1 => ?_)
  · obtain ⟨q, F2, hFe⟩ := ne_cons (F := F) (by omega)
    have hFl2 : F.length = F2.length + 1 := by rw [hFe]; rfl
    rw [hFe] at hFr
    have hq1 := hFr.1
    have hq2 := hFr.2.1
    rw [show ((F2.length : Nat) : Int) = ((F.length : Nat) : Int) - 1 by omega] at hq1 hq2
    refine pw_aload_n (i := 0) C dX10_mayBegin_22 rfl rfl (Or.inr ⟨_, rfl⟩) ?_
    refine pw_get (j := 23) C cl_X10 fl_X10_59 (by decide) rfl h0 rfl dX10_mayBegin_23 ?_
    refine pw_stk (st' := [.ref (B 23)]) rfl ?_
    refine pw_aload_n (i := 0) C dX10_mayBegin_26 rfl rfl (Or.inr ⟨_, rfl⟩) ?_
    refine pw_get (j := 27) C cl_X10 fl_X10_210 (by decide) rfl h0 rfl dX10_mayBegin_27 ?_
    refine pw_stk (st' := [.int (iZ (x 27)), .ref (B 23)]) rfl ?_
    refine pw_stk (st' := [.int (iZ ((F.length : Nat) : Int)), .ref (B 23)]) (by rw [x27]) ?_
    refine pw_iconst C dX10_mayBegin_30 ?_
    refine pw_isub C dX10_mayBegin_31 ?_
    have g_2 := v1 (((F.length : Nat) : Int) - 1)
    refine pw_iald C b1 ⟨by omega, by omega, by omega⟩ dX10_mayBegin_32 ?_
    refine pw_iconst C dX10_mayBegin_33 ?_
    refine pw_icmp_eq (tgt := 52) C (by omega) (by omega) dX10_mayBegin_34 (by decide) (fun h_3 => ?_) (fun h_3 => ?_)
    · refine pw_iconst C dX10_mayBegin_52 ?_
      refine pw_goto (tgt := 57) C dX10_mayBegin_53 (by decide) ?_
      exact pw_zret C hr (by decide +kernel) dX10_mayBegin_57 ⟨rfl, by rw [show mBeg dn F = true from by rw [hFe]; exact decide_eq_true (by split at hq1 <;> omega)]; rfl⟩
    · refine pw_aload_n (i := 0) C dX10_mayBegin_37 rfl rfl (Or.inr ⟨_, rfl⟩) ?_
      refine pw_get (j := 25) C cl_X10 fl_X10_65 (by decide) rfl h0 rfl dX10_mayBegin_38 ?_
      refine pw_stk (st' := [.ref (B 25)]) rfl ?_
      refine pw_aload_n (i := 0) C dX10_mayBegin_41 rfl rfl (Or.inr ⟨_, rfl⟩) ?_
      refine pw_get (j := 27) C cl_X10 fl_X10_210 (by decide) rfl h0 rfl dX10_mayBegin_42 ?_
      refine pw_stk (st' := [.int (iZ (x 27)), .ref (B 25)]) rfl ?_
      refine pw_stk (st' := [.int (iZ ((F.length : Nat) : Int)), .ref (B 25)]) (by rw [x27]) ?_
      refine pw_iconst C dX10_mayBegin_45 ?_
      refine pw_isub C dX10_mayBegin_46 ?_
      have g_4 := v3 (((F.length : Nat) : Int) - 1)
      refine pw_iald C b3 ⟨by omega, by omega, by omega⟩ dX10_mayBegin_47 ?_
      refine pw_iconst C dX10_mayBegin_48 ?_
      refine pw_icmp_ge (tgt := 56) C (by omega) (by omega) dX10_mayBegin_49 (by decide) (fun h_5 => ?_) (fun h_5 => ?_)
      · have h3 : q.1 ≠ 3 := fun e3 => by rw [if_pos e3] at hq1; omega
        have hq3 := hq2 h3
        have hq4 := hqk q (by rw [hFe]; exact List.mem_cons_self)
        refine pw_iconst C dX10_mayBegin_56 ?_
        exact pw_zret C hr (by decide +kernel) dX10_mayBegin_57 ⟨rfl, by rw [show mBeg dn F = false from by rw [hFe]; exact decide_eq_false (fun e => e (by omega))]; rfl⟩
      · refine pw_iconst C dX10_mayBegin_52 ?_
        refine pw_goto (tgt := 57) C dX10_mayBegin_53 (by decide) ?_
        exact pw_zret C hr (by decide +kernel) dX10_mayBegin_57 ⟨rfl, by rw [show mBeg dn F = true from by rw [hFe]; exact decide_eq_true (fun e => by have := hq2 (by omega); omega)]; rfl⟩
  · refine pw_aload_n (i := 0) C dX10_mayBegin_7 rfl rfl (Or.inr ⟨_, rfl⟩) ?_
    refine pw_get (j := 31) C cl_X10 fl_X10_213 (by decide) rfl h0 rfl dX10_mayBegin_8 ?_
    refine pw_stk (st' := [.int (iZ (x 31))]) rfl ?_
    refine pw_stk (st' := [.int (iZ (b2i dn.isSome))]) (by rw [x31]) ?_
    refine pw_if_neB (tgt := 18) C dX10_mayBegin_11 (by decide) (fun h_6 => ?_) (fun h_6 => ?_)
    · refine pw_iconst C dX10_mayBegin_18 ?_
      refine pw_goto (tgt := 57) C dX10_mayBegin_19 (by decide) ?_
      exact pw_zret C hr (by decide +kernel) dX10_mayBegin_57 ⟨rfl, by rw [show mBeg dn F = false from by rw [mBeg_0 (by omega), h_6]; rfl]; rfl⟩
    · refine pw_iconst C dX10_mayBegin_14 ?_
      refine pw_goto (tgt := 57) C dX10_mayBegin_15 (by decide) ?_
      exact pw_zret C hr (by decide +kernel) dX10_mayBegin_57 ⟨rfl, by rw [show mBeg dn F = true from by rw [mBeg_0 (by omega), h_6]; rfl]; rfl⟩

def isLs : List Rf → Bool
  | [] => false
  | f :: _ => decide (f.1 ≠ 3)
theorem isLs_0 {F : List Rf} (h : F.length = 0) : isLs F = false := by
  cases F with
  | nil => rfl
  | cons q F => simp at h
set_option maxRecDepth 100000 in
set_option maxHeartbeats 4000000 in
/-- isInList -/
theorem m_X10_isInList (g : pw_P) (l : Launch) {w : pw_W} {b : Nat} {B : Nat → Nat} {x : Nat → Int} (h0 : w 1000 = (b, some (mdE B x))) {t : Int → Ob} {n : Int} {dn : Option Ob} {F : List Rf} (hA : MdA g w B t n F) (hX : MdX x t n dn F) (hFl : F.length ≤ 40) : pw_M g l yX10_isInList cX10_isInList 1 (some .boolean) { frames := 0, cells := 0, slots := 0, locals := 0 } [.ref b] w (fun r w' => w = w' ∧ r = some (.int (iZ (b2i (isLs F))))) := by
  refine pw_M.of (by decide) (Nat.le_of_ble_eq_true rfl) rfl ?_
  intro p e s m args below meth c C hr hn
  obtain ⟨so, fr, st, la, it, b1, b2, b3, b4, b5, ⟨v1, v2, v3, v4, v5⟩, hFr, hIt⟩ := id hA
  obtain ⟨x27, x29, x31, x30⟩ := id hX
  refine pw_aload_n (i := 0) C dX10_isInList_0 rfl rfl (Or.inr ⟨_, rfl⟩) ?_
  refine pw_get (j := 27) C cl_X10 fl_X10_210 (by decide) rfl h0 rfl dX10_isInList_1 ?_
  refine pw_stk (st' := [.int (iZ (x 27))]) rfl ?_
  refine pw_stk (st' := [.int (iZ ((F.length : Nat) : Int))]) (by rw [x27]) ?_
  refine pw_if_le (tgt := 25) C (by omega) dX10_isInList_4 (by decide) (fun h_1 => ?_) (fun h_1 => ?_)
  · refine pw_iconst C dX10_isInList_25 ?_
    exact pw_zret C hr (by decide +kernel) dX10_isInList_26 ⟨rfl, by rw [show isLs F = false from by exact isLs_0 (by omega)]; rfl⟩
  · obtain ⟨q, F2, hFe⟩ := ne_cons (F := F) (by omega)
    have hFl2 : F.length = F2.length + 1 := by rw [hFe]; rfl
    rw [hFe] at hFr
    have hq1 := hFr.1
    have hq2 := hFr.2.1
    rw [show ((F2.length : Nat) : Int) = ((F.length : Nat) : Int) - 1 by omega] at hq1 hq2
    refine pw_aload_n (i := 0) C dX10_isInList_7 rfl rfl (Or.inr ⟨_, rfl⟩) ?_
    refine pw_get (j := 23) C cl_X10 fl_X10_59 (by decide) rfl h0 rfl dX10_isInList_8 ?_
    refine pw_stk (st' := [.ref (B 23)]) rfl ?_
    refine pw_aload_n (i := 0) C dX10_isInList_11 rfl rfl (Or.inr ⟨_, rfl⟩) ?_
    refine pw_get (j := 27) C cl_X10 fl_X10_210 (by decide) rfl h0 rfl dX10_isInList_12 ?_
    refine pw_stk (st' := [.int (iZ (x 27)), .ref (B 23)]) rfl ?_
    refine pw_stk (st' := [.int (iZ ((F.length : Nat) : Int)), .ref (B 23)]) (by rw [x27]) ?_
    refine pw_iconst C dX10_isInList_15 ?_
    refine pw_isub C dX10_isInList_16 ?_
    have g_2 := v1 (((F.length : Nat) : Int) - 1)
    refine pw_iald C b1 ⟨by omega, by omega, by omega⟩ dX10_isInList_17 ?_
    refine pw_if_ne (tgt := 25) C (by omega) dX10_isInList_18 (by decide) (fun h_3 => ?_) (fun h_3 => ?_)
    · refine pw_iconst C dX10_isInList_25 ?_
      exact pw_zret C hr (by decide +kernel) dX10_isInList_26 ⟨rfl, by rw [show isLs F = false from by rw [hFe]; exact decide_eq_false (fun e => by rw [if_neg e] at hq1; omega)]; rfl⟩
    · refine pw_iconst C dX10_isInList_21 ?_
      refine pw_goto (tgt := 26) C dX10_isInList_22 (by decide) ?_
      exact pw_zret C hr (by decide +kernel) dX10_isInList_26 ⟨rfl, by rw [show isLs F = true from by rw [hFe]; exact decide_eq_true (fun e => by rw [if_pos e] at hq1; omega)]; rfl⟩

set_option maxRecDepth 100000 in
set_option maxHeartbeats 4000000 in
/-- begin -/
theorem m_X10_begin (g : pw_P) (l : Launch) {w : pw_W} {b : Nat} {B : Nat → Nat} {x : Nat → Int} (h0 : w 1000 = (b, some (mdE B x))) {t : Int → Ob} {n : Int} {dn : Option Ob} {F : List Rf} (hA : MdA g w B t n F) (hX : MdX x t n dn F) (hFl : F.length < 40) {kd : Nat} {so1 : Int} (hkd : so1 = (if kd = 3 then 1 else 0)) (hk2 : kd ≠ 2) (hk0 : kd ≠ 3 → kd = 0) (hil : (itF F).length ≤ 1000) : pw_M g l yX10_begin cX10_begin 2 none { frames := 0, cells := 0, slots := 0, locals := 0 } [.ref b, .int (iZ so1)] w (fun r w' => r = none ∧ w' 1000 = (b, some (mdE B (va_up x 27 (((F.length : Nat) : Int) + 1)))) ∧ MdA g w' B t n ((kd, [], oNil) :: F) ∧ MdX (va_up x 27 (((F.length : Nat) : Int) + 1)) t n dn ((kd, [], oNil) :: F) ∧ ∀ k, (k ≠ 1000 ∧ k ≠ 1024 ∧ k ≠ 1025 ∧ k ≠ 1026) → w' k = w k) := by
  refine pw_M.of (by decide) (Nat.le_of_ble_eq_true rfl) rfl ?_
  intro p e s m args below meth c C hr hn
  obtain ⟨so, fr, st, la, it, b1, b2, b3, b4, b5, ⟨v1, v2, v3, v4, v5⟩, hFr, hIt⟩ := id hA
  obtain ⟨x27, x29, x31, x30⟩ := id hX
  have hso : inI so1 := by rw [hkd]; split <;> decide
  have hie : itF ((kd, [], oNil) :: F) = itF F := by simp [itF]
  refine pw_aload_n (i := 0) C dX10_begin_0 rfl rfl (Or.inr ⟨_, rfl⟩) ?_
  refine pw_get (j := 23) C cl_X10 fl_X10_59 (by decide) rfl h0 rfl dX10_begin_1 ?_
  refine pw_stk (st' := [.ref (B 23)]) rfl ?_
  refine pw_aload_n (i := 0) C dX10_begin_4 rfl rfl (Or.inr ⟨_, rfl⟩) ?_
  refine pw_get (j := 27) C cl_X10 fl_X10_210 (by decide) rfl h0 rfl dX10_begin_5 ?_
  refine pw_stk (st' := [.int (iZ (x 27)), .ref (B 23)]) rfl ?_
  refine pw_stk (st' := [.int (iZ ((F.length : Nat) : Int)), .ref (B 23)]) (by rw [x27]) ?_
  refine pw_iload_n (i := 1) C dX10_begin_8 rfl rfl ?_
  refine pw_iast C b1 ⟨by omega, by omega, by omega⟩ dX10_begin_9 (fun w_3 k_1 o_2 => ?_)
  refine pw_aload_n (i := 0) C dX10_begin_10 rfl rfl (Or.inr ⟨_, rfl⟩) ?_
  have c_4 := (o_2 1000 (by omega)).trans h0
  refine pw_get (j := 24) C cl_X10 fl_X10_62 (by decide) rfl c_4 rfl dX10_begin_11 ?_
  refine pw_stk (st' := [.ref (B 24)]) rfl ?_
  refine pw_aload_n (i := 0) C dX10_begin_14 rfl rfl (Or.inr ⟨_, rfl⟩) ?_
  refine pw_get (j := 27) C cl_X10 fl_X10_210 (by decide) rfl c_4 rfl dX10_begin_15 ?_
  refine pw_stk (st' := [.int (iZ (x 27)), .ref (B 24)]) rfl ?_
  refine pw_stk (st' := [.int (iZ ((F.length : Nat) : Int)), .ref (B 24)]) (by rw [x27]) ?_
  refine pw_aload_n (i := 0) C dX10_begin_18 rfl rfl (Or.inr ⟨_, rfl⟩) ?_
  refine pw_get (j := 29) C cl_X10 fl_X10_217 (by decide) rfl c_4 rfl dX10_begin_19 ?_
  refine pw_stk (st' := [.int (iZ (x 29)), .int (iZ ((F.length : Nat) : Int)), .ref (B 24)]) rfl ?_
  refine pw_stk (st' := [.int (iZ (((itF F).length : Nat) : Int)), .int (iZ ((F.length : Nat) : Int)), .ref (B 24)]) (by rw [x29]) ?_
  have c_5 := (o_2 1025 (by omega)).trans b2
  refine pw_iast C c_5 ⟨by omega, by omega, by omega⟩ dX10_begin_22 (fun w_8 k_6 o_7 => ?_)
  refine pw_aload_n (i := 0) C dX10_begin_23 rfl rfl (Or.inr ⟨_, rfl⟩) ?_
  have c_9 := (o_7 1000 (by omega)).trans c_4
  refine pw_get (j := 25) C cl_X10 fl_X10_65 (by decide) rfl c_9 rfl dX10_begin_24 ?_
  refine pw_stk (st' := [.ref (B 25)]) rfl ?_
  refine pw_aload_n (i := 0) C dX10_begin_27 rfl rfl (Or.inr ⟨_, rfl⟩) ?_
  refine pw_get (j := 27) C cl_X10 fl_X10_210 (by decide) rfl c_9 rfl dX10_begin_28 ?_
  refine pw_stk (st' := [.int (iZ (x 27)), .ref (B 25)]) rfl ?_
  refine pw_stk (st' := [.int (iZ ((F.length : Nat) : Int)), .ref (B 25)]) (by rw [x27]) ?_
  refine pw_iconst C dX10_begin_31 ?_
  have c_10 := ((o_7 1026 (by omega)).trans (o_2 1026 (by omega))).trans b3
  refine pw_iast C c_10 ⟨by omega, by omega, by omega⟩ dX10_begin_32 (fun w_13 k_11 o_12 => ?_)
  refine pw_aload_n (i := 0) C dX10_begin_33 rfl rfl (Or.inr ⟨_, rfl⟩) ?_
  refine pw_dup C dX10_begin_34 rfl ?_
  have c_14 := (o_12 1000 (by omega)).trans c_9
  refine pw_get (j := 27) C cl_X10 fl_X10_210 (by decide) rfl c_14 rfl dX10_begin_35 ?_
  refine pw_stk (st' := [.int (iZ (x 27)), .ref b]) rfl ?_
  refine pw_stk (st' := [.int (iZ ((F.length : Nat) : Int)), .ref b]) (by rw [x27]) ?_
  refine pw_iconst C dX10_begin_38 ?_
  refine pw_iadd C dX10_begin_39 ?_
  refine pw_put (j := 27) C cl_X10 fl_X10_210 (by decide) rfl rfl rfl rfl rfl c_14 (Nat.le_of_ble_eq_true rfl) dX10_begin_40 (fun w_17 k_15 o_16 => ?_)
  have k_18 : w_17 1000 = (b, some (mdE B (va_up x 27 (((F.length : Nat) : Int) + 1)))) := k_15
  have c_19 := ((o_16 1024 (by omega)).trans ((o_12 1024 (by omega)).trans (o_7 1024 (by omega)))).trans k_1
  have c_20 := ((o_16 1025 (by omega)).trans (o_12 1025 (by omega))).trans k_6
  have c_21 := (o_16 1026 (by omega)).trans k_11
  have c_22 := ((o_16 1027 (by omega)).trans ((o_12 1027 (by omega)).trans ((o_7 1027 (by omega)).trans (o_2 1027 (by omega))))).trans b4
  have c_23 := ((o_16 1029 (by omega)).trans ((o_12 1029 (by omega)).trans ((o_7 1029 (by omega)).trans (o_2 1029 (by omega))))).trans b5
  refine pw_vret C hr dX10_begin_43 ⟨rfl, k_18, ⟨_, _, _, la, it, c_19, c_20, c_21, c_22, c_23, ⟨upz_inI v1 (by omega), upz_inI v2 (by omega), upz_inI v3 (by decide), v4, v5⟩, ⟨?_, fun q => ?_, ?_, fun q => absurd q hk2, hFr.keep Ext.rf (fun j j0 j1 => ⟨upz_ne _ _ (by omega), upz_ne _ _ (by omega), upz_ne _ _ (by omega), rfl⟩)⟩, ?_⟩, ⟨rfl, ?_, x31, x30⟩, fun k hk => (o_16 k (by omega)).trans ((o_12 k (by omega)).trans ((o_7 k (by omega)).trans (o_2 k (by omega))))⟩
  · rw [upz_self]; exact hkd
  · rw [upz_self]; have := hk0 q; rw [this]; rfl
  · rw [upz_self]
  · rw [hie]; exact hIt
  · rw [hie]; exact x29

