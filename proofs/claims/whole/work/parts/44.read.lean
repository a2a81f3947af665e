def awc (f : Rf) : Int := if f.1 = 0 then (if f.2.1 = [] then 2 else 3) else if f.1 = 1 then 4 else if f.1 = 2 then 5 else 6
def AwI (aw fi : Int → Int) : List Rf → Prop
  | [] => True
  | f :: F => aw ((F.length + 1 : Nat) : Int) = awc f ∧ fi ((F.length + 1 : Nat) : Int) = ((icn F : Nat) : Int) ∧ AwI aw fi F
def fls : List Rf → List Ob
  | [] => []
  | f :: F => fls F ++ (f.2.1.reverse ++ (if f.1 = 2 then [f.2.2] else []))
def awT (dn : Option Ob) : List Rf → Int
  | [] => if dn.isSome then 1 else 0
  | f :: _ => awc f
theorem AwI.top {aw fi : Int → Int} {dn : Option Ob} {F : List Rf} (h0 : aw 0 = if dn.isSome then 1 else 0) (h : AwI aw fi F) : aw ((F.length : Nat) : Int) = awT dn F := by
  cases F with
  | nil => exact h0
  | cons f F => exact h.1
theorem AwI.keep {aw aw' fi fi' : Int → Int} : ∀ {F : List Rf}, AwI aw fi F → (∀ j : Int, j ≤ F.length → aw' j = aw j ∧ fi' j = fi j) → AwI aw' fi' F
  | [], _, _ => trivial
  | f :: F, h, hk => ⟨(hk _ (Int.le_refl _)).1.trans h.1, (hk _ (Int.le_refl _)).2.trans h.2.1, AwI.keep h.2.2 (fun j hj => hk j (by simp only [List.length_cons]; omega))⟩
theorem fls_len : ∀ F : List Rf, (fls F).length = icn F
  | [] => rfl
  | f :: F => by
    simp only [fls, icn, icF, List.length_append, List.length_reverse, fls_len F]
    by_cases h : f.1 = 2 <;> simp [h] <;> omega
/-- the reader's state -/
def RdS (g : pw_P) (w : pw_W) (A : Nat → Nat) (t : Int → Ob) (n : Int) (dn : Option Ob) (F : List Rf) (ln fa pl wd : Int) (dg : Bool) (am sp : Int) (f : Int → Int) : Prop :=
  ∃ it fi aw : Int → Int, w 8 = (A 8, some (rdE A ln fa pl (((dn.toList ++ fls F).length : Nat) : Int) ((F.length : Nat) : Int) wd dg am sp)) ∧ w 9 = (A 9, some (AC g 3000 f)) ∧ w 10 = (A 10, some (AI g 1000 it)) ∧ w 11 = (A 11, some (AI g 41 fi)) ∧ w 12 = (A 12, some (AI g 41 aw)) ∧ (∀ j, inI (it j)) ∧ (∀ j, inI (fi j)) ∧ (∀ j, inI (aw j)) ∧ aw 0 = (if dn.isSome then 1 else 0) ∧ AwI aw fi F ∧ VlsI t n it 0 (dn.toList ++ fls F)
theorem RdS.same {g : pw_P} {w w' : pw_W} {A : Nat → Nat} {t t' : Int → Ob} {n n' : Int} {dn : Option Ob} {F : List Rf} {ln fa pl wd : Int} {dg : Bool} {am sp : Int} {f : Int → Int} (h : RdS g w A t n dn F ln fa pl wd dg am sp f) (hf : ∀ k, (8 ≤ k ∧ k ≤ 12) → w' k = w k) (he : Ext t n t' n') : RdS g w' A t' n' dn F ln fa pl wd dg am sp f := by
  obtain ⟨it, fi, aw, k8, k9, k10, k11, k12, ki, kf, ka, kz, kw, kv⟩ := h
  exact ⟨it, fi, aw, (hf 8 (by omega)).trans k8, (hf 9 (by omega)).trans k9, (hf 10 (by omega)).trans k10, (hf 11 (by omega)).trans k11, (hf 12 (by omega)).trans k12, ki, kf, ka, kz, kw, kv.ext he⟩
/-- only the object changed -/
theorem RdS.obj {g : pw_P} {w w' : pw_W} {A : Nat → Nat} {t : Int → Ob} {n : Int} {dn : Option Ob} {F : List Rf} {ln fa pl wd : Int} {dg : Bool} {am sp : Int} {f : Int → Int} {ln' fa' pl' wd' : Int} {dg' : Bool} {am' sp' : Int} (h : RdS g w A t n dn F ln fa pl wd dg am sp f) (h8 : w' 8 = (A 8, some (rdE A ln' fa' pl' (((dn.toList ++ fls F).length : Nat) : Int) ((F.length : Nat) : Int) wd' dg' am' sp'))) (hf : ∀ k, (9 ≤ k ∧ k ≤ 12) → w' k = w k) : RdS g w' A t n dn F ln' fa' pl' wd' dg' am' sp' f := by
  obtain ⟨it, fi, aw, k8, k9, k10, k11, k12, ki, kf, ka, kz, kw, kv⟩ := h
  exact ⟨it, fi, aw, h8, (hf 9 (by omega)).trans k9, (hf 10 (by omega)).trans k10, (hf 11 (by omega)).trans k11, (hf 12 (by omega)).trans k12, ki, kf, ka, kz, kw, kv⟩
theorem RdS.rec {g : pw_P} {p : Program} {s : State} {m : MethodId} {args : Array Value} {meth : Method} {c : Code} {cc : ByteArray} {nL : Nat} {own : String} {w : pw_W} {A : Nat → Nat} {t : Int → Ob} {n : Int} {dn : Option Ob} {F : List Rf} {ln fa pl wd : Int} {dg : Bool} {am sp : Int} {f : Int → Int} (C : pw_C g p s m args meth c cc nL own) (h : RdS g w A t n dn F ln fa pl wd dg am sp f) : pw_rec g s w (A 8) RX5 := by
  obtain ⟨it, fi, aw, k8, -⟩ := h
  exact pw_rec.of C k8 cl_X5.1
theorem mCls_aw (dn : Option Ob) (F : List Rf) : mCls F = decide (awT dn F = 2 ∨ awT dn F = 3 ∨ awT dn F = 5) := by
  cases F with
  | nil => simp only [mCls, awT]; split <;> rfl
  | cons q F =>
    simp only [mCls, awT, awc]
    by_cases h0 : q.1 = 0
    · simp only [h0, if_true, true_or, decide_true]; split <;> rfl
    · by_cases h1 : q.1 = 1
      · simp [h1]
      · by_cases h2 : q.1 = 2 <;> simp [h0, h1, h2]
theorem mDot_aw (dn : Option Ob) (F : List Rf) : mDot F = decide (awT dn F = 3) := by
  cases F with
  | nil => simp only [mDot, awT]; split <;> rfl
  | cons q F =>
    simp only [mDot, awT, awc]
    by_cases h0 : q.1 = 0
    · by_cases hn : q.2.1 = [] <;> simp [h0, hn]
    · by_cases h1 : q.1 = 1
      · simp [h1]
      · by_cases h2 : q.1 = 2 <;> simp [h0, h1, h2]
theorem mBeg_aw (dn : Option Ob) (F : List Rf) : mBeg dn F = decide (awT dn F ≠ 5 ∧ awT dn F ≠ 1) := by
  cases F with
  | nil => cases dn <;> rfl
  | cons q F =>
    simp only [mBeg, awT, awc]
    by_cases h0 : q.1 = 0
    · by_cases hn : q.2.1 = [] <;> simp [h0, hn]
    · by_cases h1 : q.1 = 1
      · simp [h1]
      · by_cases h2 : q.1 = 2 <;> simp [h0, h1, h2]
theorem rFa_1 {f : Int → Int} {i j : Int} {wd : Nat} {dn : Option Ob} {F : List Rf} (h1 : f i ≠ 40) (h2 : f i ≠ 39) (h3 : f i ≠ 41) (h4 : f i ≠ 46) (h5 : atL (f i) = false) : rFa f i j wd dn F = 1 := by unfold rFa; rw [if_pos ⟨h1, h2, h3, h4, h5⟩]
theorem rFa_2 {f : Int → Int} {i j : Int} {wd : Nat} {dn : Option Ob} {F : List Rf} (ha : atL (f i) = true) (h : (rAt f i j).isSome = false) : rFa f i j wd dn F = 2 := by
  unfold rFa
  rw [if_neg (fun q => by rw [ha] at q; cases q.2.2.2.2), if_pos ⟨ha, by simpa using h⟩]
theorem rFa_g {f : Int → Int} {i j : Int} {wd : Nat} {dn : Option Ob} {F : List Rf} (h1 : f i = 40 ∨ f i = 39 ∨ f i = 41 ∨ f i = 46 ∨ atL (f i) = true) (h2 : atL (f i) = true → (rAt f i j).isSome = true) : rFa f i j wd dn F = if mSt (f i) dn F = false then 3 else if (f i = 40 ∨ f i = 39) ∧ 40 ≤ F.length then 4 else if 1000 ≤ wd then 5 else 0 := by
  unfold rFa
  rw [if_neg, if_neg]
  · intro q
    have := h2 q.1
    rw [q.2] at this
    cases this
  · intro q
    rcases h1 with h | h | h | h | h
    · exact q.1 h
    · exact q.2.1 h
    · exact q.2.2.1 h
    · exact q.2.2.2.1 h
    · have := q.2.2.2.2; rw [h] at this; cases this
set_option maxRecDepth 100000 in
set_option maxHeartbeats 4000000 in
/-- mayStand -/
theorem m_X5_mayStand (g : pw_P) (l : Launch) {w : pw_W} {A : Nat → Nat} {t : Int → Ob} {n : Int} {dn : Option Ob} {F : List Rf} {ln fa pl : Int} {wd : Nat} {dg : Bool} {am sp : Int} {f : Int → Int} (hR : RdS g w A t n dn F ln fa pl ((wd : Nat) : Int) dg am sp f) (hfc : ∀ j, 0 ≤ f j ∧ f j < 256) (hFl : F.length ≤ 40) (hwd : wd ≤ 1000) {c0 : Int} (hc : 0 ≤ c0 ∧ c0 < 256) : pw_M g l yX5_mayStand cX5_mayStand 3 (some .boolean) { frames := 0, cells := 0, slots := 0, locals := 0 } [.ref (A 8), .int (iZ c0)] w (fun r w' => w = w' ∧ r = some (.int (iZ (b2i (mSt c0 dn F))))) := by
  refine pw_M.of (by decide) (Nat.le_of_ble_eq_true rfl) rfl ?_
  intro p e s m args below meth c C hr hn
  obtain ⟨it, fi, aw, k8, k9, k10, k11, k12, ki, kf, ka, kz, kw, kv⟩ := id hR
  have hT := AwI.top kz kw
  refine pw_aload_n (i := 0) C dX5_mayStand_0 rfl rfl (Or.inr ⟨_, rfl⟩) ?_
  refine pw_get (j := 8) C cl_X5 fl_X5_26 (by decide) rfl k8 rfl dX5_mayStand_1 ?_
  refine pw_aload_n (i := 0) C dX5_mayStand_4 rfl rfl (Or.inr ⟨_, rfl⟩) ?_
  refine pw_get (j := 9) C cl_X5 fl_X5_42 (by decide) rfl k8 rfl dX5_mayStand_5 ?_
  have g_1 := ka ((F.length : Nat) : Int)
  refine pw_iald C k12 ⟨by omega, by omega, by omega⟩ dX5_mayStand_8 ?_
  refine pw_istore_n (i := 2) (lv' := [(0, .ref (A 8)), (1, .int (iZ c0)), (2, .int (iZ (aw ((F.length : Nat) : Int))))]) C dX5_mayStand_9 rfl (by decide) rfl ?_
  refine pw_iload_n (i := 1) C dX5_mayStand_10 rfl rfl ?_
  refine pw_bipush C dX5_mayStand_11 (by decide) ?_
  refine pw_icmp_ne (tgt := 37) C (by omega) (by omega) dX5_mayStand_13 (by decide) (fun h_2 => ?_) (fun h_2 => ?_)
  · refine pw_iload_n (i := 1) C dX5_mayStand_37 rfl rfl ?_
    refine pw_bipush C dX5_mayStand_38 (by decide) ?_
    refine pw_icmp_ne (tgt := 54) C (by omega) (by omega) dX5_mayStand_40 (by decide) (fun h_3 => ?_) (fun h_3 => ?_)
    · refine pw_iload_n (i := 2) C dX5_mayStand_54 rfl rfl ?_
      refine pw_iconst C dX5_mayStand_55 ?_
      refine pw_icmp_eq (tgt := 68) C (by omega) (by omega) dX5_mayStand_56 (by decide) (fun h_4 => ?_) (fun h_4 => ?_)
      · refine pw_iconst C dX5_mayStand_68 ?_
        exact pw_zret C hr (by decide +kernel) dX5_mayStand_69 ⟨rfl, by rw [show mSt c0 dn F = false from by unfold mSt; rw [if_neg (by omega), if_neg (by omega), mBeg_aw]; exact decide_eq_false (by omega)]; rfl⟩
      · refine pw_iload_n (i := 2) C dX5_mayStand_59 rfl rfl ?_
        refine pw_iconst C dX5_mayStand_60 ?_
        refine pw_icmp_eq (tgt := 68) C (by omega) (by omega) dX5_mayStand_61 (by decide) (fun h_5 => ?_) (fun h_5 => ?_)
        · refine pw_iconst C dX5_mayStand_68 ?_
          exact pw_zret C hr (by decide +kernel) dX5_mayStand_69 ⟨rfl, by rw [show mSt c0 dn F = false from by unfold mSt; rw [if_neg (by omega), if_neg (by omega), mBeg_aw]; exact decide_eq_false (by omega)]; rfl⟩
        · refine pw_iconst C dX5_mayStand_64 ?_
          refine pw_goto (tgt := 69) C dX5_mayStand_65 (by decide) ?_
          exact pw_zret C hr (by decide +kernel) dX5_mayStand_69 ⟨rfl, by rw [show mSt c0 dn F = true from by unfold mSt; rw [if_neg (by omega), if_neg (by omega), mBeg_aw]; exact decide_eq_true (by omega)]; rfl⟩
    · refine pw_iload_n (i := 2) C dX5_mayStand_43 rfl rfl ?_
      refine pw_iconst C dX5_mayStand_44 ?_
      refine pw_icmp_ne (tgt := 52) C (by omega) (by omega) dX5_mayStand_45 (by decide) (fun h_6 => ?_) (fun h_6 => ?_)
      · refine pw_iconst C dX5_mayStand_52 ?_
        exact pw_zret C hr (by decide +kernel) dX5_mayStand_53 ⟨rfl, by rw [show mSt c0 dn F = false from by unfold mSt; rw [if_neg (by omega), if_pos (by omega), mDot_aw dn]; exact decide_eq_false (by omega)]; rfl⟩
      · refine pw_iconst C dX5_mayStand_48 ?_
        refine pw_goto (tgt := 53) C dX5_mayStand_49 (by decide) ?_
        exact pw_zret C hr (by decide +kernel) dX5_mayStand_53 ⟨rfl, by rw [show mSt c0 dn F = true from by unfold mSt; rw [if_neg (by omega), if_pos (by omega), mDot_aw dn]; exact decide_eq_true (by omega)]; rfl⟩
  · refine pw_iload_n (i := 2) C dX5_mayStand_16 rfl rfl ?_
    refine pw_iconst C dX5_mayStand_17 ?_
    refine pw_icmp_eq (tgt := 31) C (by omega) (by omega) dX5_mayStand_18 (by decide) (fun h_7 => ?_) (fun h_7 => ?_)
    · refine pw_iconst C dX5_mayStand_31 ?_
      refine pw_goto (tgt := 36) C dX5_mayStand_32 (by decide) ?_
      exact pw_zret C hr (by decide +kernel) dX5_mayStand_36 ⟨rfl, by rw [show mSt c0 dn F = true from by unfold mSt; rw [if_pos (by omega), mCls_aw dn]; exact decide_eq_true (by omega)]; rfl⟩
    · refine pw_iload_n (i := 2) C dX5_mayStand_21 rfl rfl ?_
      refine pw_iconst C dX5_mayStand_22 ?_
      refine pw_icmp_eq (tgt := 31) C (by omega) (by omega) dX5_mayStand_23 (by decide) (fun h_8 => ?_) (fun h_8 => ?_)
      · refine pw_iconst C dX5_mayStand_31 ?_
        refine pw_goto (tgt := 36) C dX5_mayStand_32 (by decide) ?_
        exact pw_zret C hr (by decide +kernel) dX5_mayStand_36 ⟨rfl, by rw [show mSt c0 dn F = true from by unfold mSt; rw [if_pos (by omega), mCls_aw dn]; exact decide_eq_true (by omega)]; rfl⟩
      · refine pw_iload_n (i := 2) C dX5_mayStand_26 rfl rfl ?_
        refine pw_iconst C dX5_mayStand_27 ?_
        refine pw_icmp_ne (tgt := 35) C (by omega) (by omega) dX5_mayStand_28 (by decide) (fun h_9 => ?_) (fun h_9 => ?_)
        · refine pw_iconst C dX5_mayStand_35 ?_
          exact pw_zret C hr (by decide +kernel) dX5_mayStand_36 ⟨rfl, by rw [show mSt c0 dn F = false from by unfold mSt; rw [if_pos (by omega), mCls_aw dn]; exact decide_eq_false (by omega)]; rfl⟩
        · refine pw_iconst C dX5_mayStand_31 ?_
          refine pw_goto (tgt := 36) C dX5_mayStand_32 (by decide) ?_
          exact pw_zret C hr (by decide +kernel) dX5_mayStand_36 ⟨rfl, by rw [show mSt c0 dn F = true from by unfold mSt; rw [if_pos (by omega), mCls_aw dn]; exact decide_eq_true (by omega)]; rfl⟩

set_option maxRecDepth 100000 in
set_option maxHeartbeats 4000000 in
/-- faultOfWord -/
theorem m_X5_faultOfWord (g : pw_P) (l : Launch) {w : pw_W} {A : Nat → Nat} {t : Int → Ob} {n : Int} {dn : Option Ob} {F : List Rf} {ln fa pl : Int} {wd : Nat} {dg : Bool} {am sp : Int} {f : Int → Int} (hR : RdS g w A t n dn F ln fa pl ((wd : Nat) : Int) dg am sp f) (hfc : ∀ j, 0 ≤ f j ∧ f j < 256) (hFl : F.length ≤ 40) (hwd : wd ≤ 1000) {i j : Int} (hi : 0 ≤ i ∧ i < j) (hj : j ≤ 3000) (hat : atL (f i) = true → ∀ k, i ≤ k → k < j → atL (f k) = true) : pw_M g l yX5_faultOfWord cX5_faultOfWord 5 (some .int) { frames := 5, cells := 0, slots := 0, locals := 115 } [.ref (A 8), .int (iZ i), .int (iZ j)] w (fun r w' => r = some (.int (iZ ((rFa f i j wd dn F : Nat) : Int))) ∧ (∃ dg' am' sp', RdS g w' A t n dn F ln fa pl ((wd : Nat) : Int) dg' am' sp' f ∧ (atL (f i) = true → dg' = (scF f (j - i).toNat i true 0 0).1 ∧ am' = amC (scF f (j - i).toNat i true 0 0).2.1 ∧ sp' = (((scF f (j - i).toNat i true 0 0).2.2 : Nat) : Int))) ∧ ∀ k, k ≠ 8 → w' k = w k) := by
  refine pw_M.of (by decide) (Nat.le_of_ble_eq_true rfl) rfl ?_
  intro p e s m args below meth c C hr hn
  obtain ⟨it, fi, aw, k8, k9, k10, k11, k12, ki, kf, ka, kz, kw, kv⟩ := id hR
  refine pw_aload_n (i := 0) C dX5_faultOfWord_0 rfl rfl (Or.inr ⟨_, rfl⟩) ?_
  refine pw_get (j := 1) C cl_X5 fl_X5_9 (by decide) rfl k8 rfl dX5_faultOfWord_1 ?_
  refine pw_iload_n (i := 1) C dX5_faultOfWord_4 rfl rfl ?_
  have g_1 := hfc i
  refine pw_cald C k9 ⟨by omega, by omega, by omega⟩ dX5_faultOfWord_5 ?_
  refine pw_istore_n (i := 3) (lv' := [(0, .ref (A 8)), (1, .int (iZ i)), (2, .int (iZ j)), (3, .int (iZ (f i)))]) C dX5_faultOfWord_6 rfl (by decide) rfl ?_
  have hfi := hfc i
  refine pw_iload_n (i := 3) C dX5_faultOfWord_7 rfl rfl ?_
  refine pw_bipush C dX5_faultOfWord_8 (by decide) ?_
  refine pw_icmp_eq (tgt := 19) C (by omega) (by omega) dX5_faultOfWord_10 (by decide) (fun h_2 => ?_) (fun h_2 => ?_)
  · refine pw_iconst C dX5_faultOfWord_19 ?_
    refine pw_goto (tgt := 24) C dX5_faultOfWord_20 (by decide) ?_
    refine pw_istore (lv' := [(0, .ref (A 8)), (1, .int (iZ i)), (2, .int (iZ j)), (3, .int (iZ (f i))), (4, .int (iZ 1))]) C dX5_faultOfWord_24 (by decide) rfl ?_
    refine pw_iload C dX5_faultOfWord_26 rfl ?_
    refine pw_if_ne (tgt := 52) C (by omega) dX5_faultOfWord_28 (by decide) (fun h_3 => ?_) (fun h_3 => ?_)
    · refine pw_iload_n (i := 3) C dX5_faultOfWord_52 rfl rfl ?_
      refine pw_callS (As := [.int (iZ (f i))]) (st := []) C (m_X5_isAtomLetter g l (c0 := f i) (by omega)) my_X5_isAtomLetter ml_X5_65 rfl ⟨Nat.le_of_ble_eq_true rfl, Nat.le_of_ble_eq_true rfl⟩ ⟨by (try dsimp only); omega, by (try dsimp only); omega⟩ rfl (Nat.le_of_ble_eq_true rfl) dX5_faultOfWord_53 ?_
      rintro _ _ ⟨rfl, rfl⟩
      refine pw_stk (st' := [.int (iZ (b2i (atL (f i))))]) rfl ?_
      refine pw_if_eqB (tgt := 70) C dX5_faultOfWord_56 (by decide) (fun h_4 => ?_) (fun h_4 => ?_)
      · refine pw_aload_n (i := 0) C dX5_faultOfWord_70 rfl rfl (Or.inr ⟨_, rfl⟩) ?_
        refine pw_iload_n (i := 3) C dX5_faultOfWord_71 rfl rfl ?_
        refine pw_callV (As := [.int (iZ (f i))]) (st := []) C (m_X5_mayStand g l hR hfc hFl hwd (c0 := f i) (by omega)) my_X5_mayStand ml_X5_73 (hR.rec C) rfl ⟨Nat.le_of_ble_eq_true rfl, Nat.le_of_ble_eq_true rfl⟩ ⟨by (try dsimp only); omega, by (try dsimp only); omega⟩ rfl (Nat.le_of_ble_eq_true rfl) dX5_faultOfWord_72 ?_
        rintro _ _ ⟨rfl, rfl⟩
        refine pw_stk (st' := [.int (iZ (b2i (mSt (f i) dn F)))]) rfl ?_
        refine pw_if_neB (tgt := 80) C dX5_faultOfWord_75 (by decide) (fun h_5 => ?_) (fun h_5 => ?_)
        · refine pw_iload C dX5_faultOfWord_80 rfl ?_
          refine pw_if_eq (tgt := 96) C (by omega) dX5_faultOfWord_82 (by decide) (fun h_6 => ?_) (fun h_6 => ?_)
          · exfalso; omega
          · refine pw_aload_n (i := 0) C dX5_faultOfWord_85 rfl rfl (Or.inr ⟨_, rfl⟩) ?_
            refine pw_get (j := 9) C cl_X5 fl_X5_42 (by decide) rfl k8 rfl dX5_faultOfWord_86 ?_
            refine pw_bipush C dX5_faultOfWord_89 (by decide) ?_
            refine pw_icmp_lt (tgt := 96) C (by omega) (by omega) dX5_faultOfWord_91 (by decide) (fun h_7 => ?_) (fun h_7 => ?_)
            · refine pw_aload_n (i := 0) C dX5_faultOfWord_96 rfl rfl (Or.inr ⟨_, rfl⟩) ?_
              refine pw_get (j := 10) C cl_X5 fl_X5_45 (by decide) rfl k8 rfl dX5_faultOfWord_97 ?_
              refine pw_sipush C dX5_faultOfWord_100 (by decide) ?_
              refine pw_icmp_lt (tgt := 110) C (by omega) (by omega) dX5_faultOfWord_103 (by decide) (fun h_8 => ?_) (fun h_8 => ?_)
              · refine pw_iconst C dX5_faultOfWord_110 ?_
                exact pw_iret C hr dX5_faultOfWord_111 ⟨by rw [rFa_g (Or.inl (by omega)) (fun q => by rw [h_4] at q; cases q), if_neg (by rw [h_5]; decide), if_neg (fun q => by have := q.1; omega), if_neg (by omega)]; rfl, ⟨_, _, _, hR, fun q => by rw [h_4] at q; cases q⟩, fun _ _ => rfl⟩
              · refine pw_iconst C dX5_faultOfWord_106 ?_
                refine pw_goto (tgt := 111) C dX5_faultOfWord_107 (by decide) ?_
                exact pw_iret C hr dX5_faultOfWord_111 ⟨by rw [rFa_g (Or.inl (by omega)) (fun q => by rw [h_4] at q; cases q), if_neg (by rw [h_5]; decide), if_neg (fun q => by have := q.1; omega), if_pos (by omega)]; rfl, ⟨_, _, _, hR, fun q => by rw [h_4] at q; cases q⟩, fun _ _ => rfl⟩
            · refine pw_iconst C dX5_faultOfWord_94 ?_
              exact pw_iret C hr dX5_faultOfWord_95 ⟨by rw [rFa_g (Or.inl (by omega)) (fun q => by rw [h_4] at q; cases q), if_neg (by rw [h_5]; decide), if_pos ⟨by omega, by omega⟩]; rfl, ⟨_, _, _, hR, fun q => by rw [h_4] at q; cases q⟩, fun _ _ => rfl⟩
        · refine pw_iconst C dX5_faultOfWord_78 ?_
          exact pw_iret C hr dX5_faultOfWord_79 ⟨by rw [rFa_g (Or.inl (by omega)) (fun q => by rw [h_4] at q; cases q), if_pos h_5]; rfl, ⟨_, _, _, hR, fun q => by rw [h_4] at q; cases q⟩, fun _ _ => rfl⟩
      · refine pw_aload_n (i := 0) C dX5_faultOfWord_59 rfl rfl (Or.inr ⟨_, rfl⟩) ?_
        refine pw_iload_n (i := 1) C dX5_faultOfWord_60 rfl rfl ?_
        refine pw_iload_n (i := 2) C dX5_faultOfWord_61 rfl rfl ?_
        refine pw_callV (As := [.int (iZ i), .int (iZ j)]) (st := []) C (m_X5_scanAtom g l k8 k9 hfc (i := i) (j := j) (by omega) (by omega) (hat h_4)) my_X5_scanAtom ml_X5_69 (hR.rec C) rfl ⟨Nat.le_of_ble_eq_true rfl, Nat.le_of_ble_eq_true rfl⟩ ⟨by (try dsimp only); omega, by (try dsimp only); omega⟩ rfl (Nat.le_of_ble_eq_true rfl) dX5_faultOfWord_62 ?_
        rintro _ w1 ⟨rfl, h81, ho1⟩
        have hR1 := hR.obj h81 (fun k hk => ho1 k (by omega))
        obtain ⟨it1, fi1, aw1, k81, -⟩ := id hR1
        refine pw_stk (st' := [.int (iZ (b2i ((rAt f i j).isSome)))]) rfl ?_
        refine pw_if_neB (tgt := 70) C dX5_faultOfWord_65 (by decide) (fun h_9 => ?_) (fun h_9 => ?_)
        · refine pw_aload_n (i := 0) C dX5_faultOfWord_70 rfl rfl (Or.inr ⟨_, rfl⟩) ?_
          refine pw_iload_n (i := 3) C dX5_faultOfWord_71 rfl rfl ?_
          refine pw_callV (As := [.int (iZ (f i))]) (st := []) C (m_X5_mayStand g l hR1 hfc hFl hwd (c0 := f i) (by omega)) my_X5_mayStand ml_X5_73 (hR1.rec C) rfl ⟨Nat.le_of_ble_eq_true rfl, Nat.le_of_ble_eq_true rfl⟩ ⟨by (try dsimp only); omega, by (try dsimp only); omega⟩ rfl (Nat.le_of_ble_eq_true rfl) dX5_faultOfWord_72 ?_
          rintro _ _ ⟨rfl, rfl⟩
          refine pw_stk (st' := [.int (iZ (b2i (mSt (f i) dn F)))]) rfl ?_
          refine pw_if_neB (tgt := 80) C dX5_faultOfWord_75 (by decide) (fun h_10 => ?_) (fun h_10 => ?_)
          · refine pw_iload C dX5_faultOfWord_80 rfl ?_
            refine pw_if_eq (tgt := 96) C (by omega) dX5_faultOfWord_82 (by decide) (fun h_11 => ?_) (fun h_11 => ?_)
            · exfalso; omega
            · refine pw_aload_n (i := 0) C dX5_faultOfWord_85 rfl rfl (Or.inr ⟨_, rfl⟩) ?_
              refine pw_get (j := 9) C cl_X5 fl_X5_42 (by decide) rfl h81 rfl dX5_faultOfWord_86 ?_
              refine pw_bipush C dX5_faultOfWord_89 (by decide) ?_
              refine pw_icmp_lt (tgt := 96) C (by omega) (by omega) dX5_faultOfWord_91 (by decide) (fun h_12 => ?_) (fun h_12 => ?_)
              · refine pw_aload_n (i := 0) C dX5_faultOfWord_96 rfl rfl (Or.inr ⟨_, rfl⟩) ?_
                refine pw_get (j := 10) C cl_X5 fl_X5_45 (by decide) rfl h81 rfl dX5_faultOfWord_97 ?_
                refine pw_sipush C dX5_faultOfWord_100 (by decide) ?_
                refine pw_icmp_lt (tgt := 110) C (by omega) (by omega) dX5_faultOfWord_103 (by decide) (fun h_13 => ?_) (fun h_13 => ?_)
                · refine pw_iconst C dX5_faultOfWord_110 ?_
                  exact pw_iret C hr dX5_faultOfWord_111 ⟨by rw [rFa_g (Or.inl (by omega)) (fun _ => h_9), if_neg (by rw [h_10]; decide), if_neg (fun q => by have := q.1; omega), if_neg (by omega)]; rfl, ⟨_, _, _, hR1, fun _ => ⟨rfl, rfl, rfl⟩⟩, fun k hk => ho1 k hk⟩
                · refine pw_iconst C dX5_faultOfWord_106 ?_
                  refine pw_goto (tgt := 111) C dX5_faultOfWord_107 (by decide) ?_
                  exact pw_iret C hr dX5_faultOfWord_111 ⟨by rw [rFa_g (Or.inl (by omega)) (fun _ => h_9), if_neg (by rw [h_10]; decide), if_neg (fun q => by have := q.1; omega), if_pos (by omega)]; rfl, ⟨_, _, _, hR1, fun _ => ⟨rfl, rfl, rfl⟩⟩, fun k hk => ho1 k hk⟩
              · refine pw_iconst C dX5_faultOfWord_94 ?_
                exact pw_iret C hr dX5_faultOfWord_95 ⟨by rw [rFa_g (Or.inl (by omega)) (fun _ => h_9), if_neg (by rw [h_10]; decide), if_pos ⟨by omega, by omega⟩]; rfl, ⟨_, _, _, hR1, fun _ => ⟨rfl, rfl, rfl⟩⟩, fun k hk => ho1 k hk⟩
          · refine pw_iconst C dX5_faultOfWord_78 ?_
            exact pw_iret C hr dX5_faultOfWord_79 ⟨by rw [rFa_g (Or.inl (by omega)) (fun _ => h_9), if_pos h_10]; rfl, ⟨_, _, _, hR1, fun _ => ⟨rfl, rfl, rfl⟩⟩, fun k hk => ho1 k hk⟩
        · refine pw_iconst C dX5_faultOfWord_68 ?_
          exact pw_iret C hr dX5_faultOfWord_69 ⟨by rw [rFa_2 h_4 h_9]; rfl, ⟨_, _, _, hR1, fun _ => ⟨rfl, rfl, rfl⟩⟩, fun k hk => ho1 k hk⟩
    · exfalso; omega
  · refine pw_iload_n (i := 3) C dX5_faultOfWord_13 rfl rfl ?_
    refine pw_bipush C dX5_faultOfWord_14 (by decide) ?_
    refine pw_icmp_ne (tgt := 23) C (by omega) (by omega) dX5_faultOfWord_16 (by decide) (fun h_14 => ?_) (fun h_14 => ?_)
    · refine pw_iconst C dX5_faultOfWord_23 ?_
      refine pw_istore (lv' := [(0, .ref (A 8)), (1, .int (iZ i)), (2, .int (iZ j)), (3, .int (iZ (f i))), (4, .int (iZ 0))]) C dX5_faultOfWord_24 (by decide) rfl ?_
      refine pw_iload C dX5_faultOfWord_26 rfl ?_
      refine pw_if_ne (tgt := 52) C (by omega) dX5_faultOfWord_28 (by decide) (fun h_15 => ?_) (fun h_15 => ?_)
      · exfalso; omega
      · refine pw_iload_n (i := 3) C dX5_faultOfWord_31 rfl rfl ?_
        refine pw_bipush C dX5_faultOfWord_32 (by decide) ?_
        refine pw_icmp_eq (tgt := 52) C (by omega) (by omega) dX5_faultOfWord_34 (by decide) (fun h_16 => ?_) (fun h_16 => ?_)
        · refine pw_iload_n (i := 3) C dX5_faultOfWord_52 rfl rfl ?_
          refine pw_callS (As := [.int (iZ (f i))]) (st := []) C (m_X5_isAtomLetter g l (c0 := f i) (by omega)) my_X5_isAtomLetter ml_X5_65 rfl ⟨Nat.le_of_ble_eq_true rfl, Nat.le_of_ble_eq_true rfl⟩ ⟨by (try dsimp only); omega, by (try dsimp only); omega⟩ rfl (Nat.le_of_ble_eq_true rfl) dX5_faultOfWord_53 ?_
          rintro _ _ ⟨rfl, rfl⟩
          refine pw_stk (st' := [.int (iZ (b2i (atL (f i))))]) rfl ?_
          refine pw_if_eqB (tgt := 70) C dX5_faultOfWord_56 (by decide) (fun h_17 => ?_) (fun h_17 => ?_)
          · refine pw_aload_n (i := 0) C dX5_faultOfWord_70 rfl rfl (Or.inr ⟨_, rfl⟩) ?_
            refine pw_iload_n (i := 3) C dX5_faultOfWord_71 rfl rfl ?_
            refine pw_callV (As := [.int (iZ (f i))]) (st := []) C (m_X5_mayStand g l hR hfc hFl hwd (c0 := f i) (by omega)) my_X5_mayStand ml_X5_73 (hR.rec C) rfl ⟨Nat.le_of_ble_eq_true rfl, Nat.le_of_ble_eq_true rfl⟩ ⟨by (try dsimp only); omega, by (try dsimp only); omega⟩ rfl (Nat.le_of_ble_eq_true rfl) dX5_faultOfWord_72 ?_
            rintro _ _ ⟨rfl, rfl⟩
            refine pw_stk (st' := [.int (iZ (b2i (mSt (f i) dn F)))]) rfl ?_
            refine pw_if_neB (tgt := 80) C dX5_faultOfWord_75 (by decide) (fun h_18 => ?_) (fun h_18 => ?_)
            · refine pw_iload C dX5_faultOfWord_80 rfl ?_
              refine pw_if_eq (tgt := 96) C (by omega) dX5_faultOfWord_82 (by decide) (fun h_19 => ?_) (fun h_19 => ?_)
              · refine pw_aload_n (i := 0) C dX5_faultOfWord_96 rfl rfl (Or.inr ⟨_, rfl⟩) ?_
                refine pw_get (j := 10) C cl_X5 fl_X5_45 (by decide) rfl k8 rfl dX5_faultOfWord_97 ?_
                refine pw_sipush C dX5_faultOfWord_100 (by decide) ?_
                refine pw_icmp_lt (tgt := 110) C (by omega) (by omega) dX5_faultOfWord_103 (by decide) (fun h_20 => ?_) (fun h_20 => ?_)
                · refine pw_iconst C dX5_faultOfWord_110 ?_
                  exact pw_iret C hr dX5_faultOfWord_111 ⟨by rw [rFa_g (Or.inr (Or.inr (Or.inl (by omega)))) (fun q => by rw [h_17] at q; cases q), if_neg (by rw [h_18]; decide), if_neg (fun q => by have := q.1; omega), if_neg (by omega)]; rfl, ⟨_, _, _, hR, fun q => by rw [h_17] at q; cases q⟩, fun _ _ => rfl⟩
                · refine pw_iconst C dX5_faultOfWord_106 ?_
                  refine pw_goto (tgt := 111) C dX5_faultOfWord_107 (by decide) ?_
                  exact pw_iret C hr dX5_faultOfWord_111 ⟨by rw [rFa_g (Or.inr (Or.inr (Or.inl (by omega)))) (fun q => by rw [h_17] at q; cases q), if_neg (by rw [h_18]; decide), if_neg (fun q => by have := q.1; omega), if_pos (by omega)]; rfl, ⟨_, _, _, hR, fun q => by rw [h_17] at q; cases q⟩, fun _ _ => rfl⟩
              · exfalso; omega
            · refine pw_iconst C dX5_faultOfWord_78 ?_
              exact pw_iret C hr dX5_faultOfWord_79 ⟨by rw [rFa_g (Or.inr (Or.inr (Or.inl (by omega)))) (fun q => by rw [h_17] at q; cases q), if_pos h_18]; rfl, ⟨_, _, _, hR, fun q => by rw [h_17] at q; cases q⟩, fun _ _ => rfl⟩
          · refine pw_aload_n (i := 0) C dX5_faultOfWord_59 rfl rfl (Or.inr ⟨_, rfl⟩) ?_
            refine pw_iload_n (i := 1) C dX5_faultOfWord_60 rfl rfl ?_
            refine pw_iload_n (i := 2) C dX5_faultOfWord_61 rfl rfl ?_
            refine pw_callV (As := [.int (iZ i), .int (iZ j)]) (st := []) C (m_X5_scanAtom g l k8 k9 hfc (i := i) (j := j) (by omega) (by omega) (hat h_17)) my_X5_scanAtom ml_X5_69 (hR.rec C) rfl ⟨Nat.le_of_ble_eq_true rfl, Nat.le_of_ble_eq_true rfl⟩ ⟨by (try dsimp only); omega, by (try dsimp only); omega⟩ rfl (Nat.le_of_ble_eq_true rfl) dX5_faultOfWord_62 ?_
            rintro _ w1 ⟨rfl, h81, ho1⟩
            have hR1 := hR.obj h81 (fun k hk => ho1 k (by omega))
            obtain ⟨it1, fi1, aw1, k81, -⟩ := id hR1
            refine pw_stk (st' := [.int (iZ (b2i ((rAt f i j).isSome)))]) rfl ?_
            refine pw_if_neB (tgt := 70) C dX5_faultOfWord_65 (by decide) (fun h_21 => ?_) (fun h_21 => ?_)
            · refine pw_aload_n (i := 0) C dX5_faultOfWord_70 rfl rfl (Or.inr ⟨_, rfl⟩) ?_
              refine pw_iload_n (i := 3) C dX5_faultOfWord_71 rfl rfl ?_
              refine pw_callV (As := [.int (iZ (f i))]) (st := []) C (m_X5_mayStand g l hR1 hfc hFl hwd (c0 := f i) (by omega)) my_X5_mayStand ml_X5_73 (hR1.rec C) rfl ⟨Nat.le_of_ble_eq_true rfl, Nat.le_of_ble_eq_true rfl⟩ ⟨by (try dsimp only); omega, by (try dsimp only); omega⟩ rfl (Nat.le_of_ble_eq_true rfl) dX5_faultOfWord_72 ?_
              rintro _ _ ⟨rfl, rfl⟩
              refine pw_stk (st' := [.int (iZ (b2i (mSt (f i) dn F)))]) rfl ?_
              refine pw_if_neB (tgt := 80) C dX5_faultOfWord_75 (by decide) (fun h_22 => ?_) (fun h_22 => ?_)
              · refine pw_iload C dX5_faultOfWord_80 rfl ?_
                refine pw_if_eq (tgt := 96) C (by omega) dX5_faultOfWord_82 (by decide) (fun h_23 => ?_) (fun h_23 => ?_)
                · refine pw_aload_n (i := 0) C dX5_faultOfWord_96 rfl rfl (Or.inr ⟨_, rfl⟩) ?_
                  refine pw_get (j := 10) C cl_X5 fl_X5_45 (by decide) rfl h81 rfl dX5_faultOfWord_97 ?_
                  refine pw_sipush C dX5_faultOfWord_100 (by decide) ?_
                  refine pw_icmp_lt (tgt := 110) C (by omega) (by omega) dX5_faultOfWord_103 (by decide) (fun h_24 => ?_) (fun h_24 => ?_)
                  · refine pw_iconst C dX5_faultOfWord_110 ?_
                    exact pw_iret C hr dX5_faultOfWord_111 ⟨by rw [rFa_g (Or.inr (Or.inr (Or.inl (by omega)))) (fun _ => h_21), if_neg (by rw [h_22]; decide), if_neg (fun q => by have := q.1; omega), if_neg (by omega)]; rfl, ⟨_, _, _, hR1, fun _ => ⟨rfl, rfl, rfl⟩⟩, fun k hk => ho1 k hk⟩
                  · refine pw_iconst C dX5_faultOfWord_106 ?_
                    refine pw_goto (tgt := 111) C dX5_faultOfWord_107 (by decide) ?_
                    exact pw_iret C hr dX5_faultOfWord_111 ⟨by rw [rFa_g (Or.inr (Or.inr (Or.inl (by omega)))) (fun _ => h_21), if_neg (by rw [h_22]; decide), if_neg (fun q => by have := q.1; omega), if_pos (by omega)]; rfl, ⟨_, _, _, hR1, fun _ => ⟨rfl, rfl, rfl⟩⟩, fun k hk => ho1 k hk⟩
                · exfalso; omega
              · refine pw_iconst C dX5_faultOfWord_78 ?_
                exact pw_iret C hr dX5_faultOfWord_79 ⟨by rw [rFa_g (Or.inr (Or.inr (Or.inl (by omega)))) (fun _ => h_21), if_pos h_22]; rfl, ⟨_, _, _, hR1, fun _ => ⟨rfl, rfl, rfl⟩⟩, fun k hk => ho1 k hk⟩
            · refine pw_iconst C dX5_faultOfWord_68 ?_
              exact pw_iret C hr dX5_faultOfWord_69 ⟨by rw [rFa_2 h_17 h_21]; rfl, ⟨_, _, _, hR1, fun _ => ⟨rfl, rfl, rfl⟩⟩, fun k hk => ho1 k hk⟩
        · refine pw_iload_n (i := 3) C dX5_faultOfWord_37 rfl rfl ?_
          refine pw_bipush C dX5_faultOfWord_38 (by decide) ?_
          refine pw_icmp_eq (tgt := 52) C (by omega) (by omega) dX5_faultOfWord_40 (by decide) (fun h_25 => ?_) (fun h_25 => ?_)
          · refine pw_iload_n (i := 3) C dX5_faultOfWord_52 rfl rfl ?_
            refine pw_callS (As := [.int (iZ (f i))]) (st := []) C (m_X5_isAtomLetter g l (c0 := f i) (by omega)) my_X5_isAtomLetter ml_X5_65 rfl ⟨Nat.le_of_ble_eq_true rfl, Nat.le_of_ble_eq_true rfl⟩ ⟨by (try dsimp only); omega, by (try dsimp only); omega⟩ rfl (Nat.le_of_ble_eq_true rfl) dX5_faultOfWord_53 ?_
            rintro _ _ ⟨rfl, rfl⟩
            refine pw_stk (st' := [.int (iZ (b2i (atL (f i))))]) rfl ?_
            refine pw_if_eqB (tgt := 70) C dX5_faultOfWord_56 (by decide) (fun h_26 => ?_) (fun h_26 => ?_)
            · refine pw_aload_n (i := 0) C dX5_faultOfWord_70 rfl rfl (Or.inr ⟨_, rfl⟩) ?_
              refine pw_iload_n (i := 3) C dX5_faultOfWord_71 rfl rfl ?_
              refine pw_callV (As := [.int (iZ (f i))]) (st := []) C (m_X5_mayStand g l hR hfc hFl hwd (c0 := f i) (by omega)) my_X5_mayStand ml_X5_73 (hR.rec C) rfl ⟨Nat.le_of_ble_eq_true rfl, Nat.le_of_ble_eq_true rfl⟩ ⟨by (try dsimp only); omega, by (try dsimp only); omega⟩ rfl (Nat.le_of_ble_eq_true rfl) dX5_faultOfWord_72 ?_
              rintro _ _ ⟨rfl, rfl⟩
              refine pw_stk (st' := [.int (iZ (b2i (mSt (f i) dn F)))]) rfl ?_
              refine pw_if_neB (tgt := 80) C dX5_faultOfWord_75 (by decide) (fun h_27 => ?_) (fun h_27 => ?_)
              · refine pw_iload C dX5_faultOfWord_80 rfl ?_
                refine pw_if_eq (tgt := 96) C (by omega) dX5_faultOfWord_82 (by decide) (fun h_28 => ?_) (fun h_28 => ?_)
                · refine pw_aload_n (i := 0) C dX5_faultOfWord_96 rfl rfl (Or.inr ⟨_, rfl⟩) ?_
                  refine pw_get (j := 10) C cl_X5 fl_X5_45 (by decide) rfl k8 rfl dX5_faultOfWord_97 ?_
                  refine pw_sipush C dX5_faultOfWord_100 (by decide) ?_
                  refine pw_icmp_lt (tgt := 110) C (by omega) (by omega) dX5_faultOfWord_103 (by decide) (fun h_29 => ?_) (fun h_29 => ?_)
                  · refine pw_iconst C dX5_faultOfWord_110 ?_
                    exact pw_iret C hr dX5_faultOfWord_111 ⟨by rw [rFa_g (Or.inr (Or.inr (Or.inr (Or.inl (by omega))))) (fun q => by rw [h_26] at q; cases q), if_neg (by rw [h_27]; decide), if_neg (fun q => by have := q.1; omega), if_neg (by omega)]; rfl, ⟨_, _, _, hR, fun q => by rw [h_26] at q; cases q⟩, fun _ _ => rfl⟩
                  · refine pw_iconst C dX5_faultOfWord_106 ?_
                    refine pw_goto (tgt := 111) C dX5_faultOfWord_107 (by decide) ?_
                    exact pw_iret C hr dX5_faultOfWord_111 ⟨by rw [rFa_g (Or.inr (Or.inr (Or.inr (Or.inl (by omega))))) (fun q => by rw [h_26] at q; cases q), if_neg (by rw [h_27]; decide), if_neg (fun q => by have := q.1; omega), if_pos (by omega)]; rfl, ⟨_, _, _, hR, fun q => by rw [h_26] at q; cases q⟩, fun _ _ => rfl⟩
                · exfalso; omega
              · refine pw_iconst C dX5_faultOfWord_78 ?_
                exact pw_iret C hr dX5_faultOfWord_79 ⟨by rw [rFa_g (Or.inr (Or.inr (Or.inr (Or.inl (by omega))))) (fun q => by rw [h_26] at q; cases q), if_pos h_27]; rfl, ⟨_, _, _, hR, fun q => by rw [h_26] at q; cases q⟩, fun _ _ => rfl⟩
            · refine pw_aload_n (i := 0) C dX5_faultOfWord_59 rfl rfl (Or.inr ⟨_, rfl⟩) ?_
              refine pw_iload_n (i := 1) C dX5_faultOfWord_60 rfl rfl ?_
              refine pw_iload_n (i := 2) C dX5_faultOfWord_61 rfl rfl ?_
              refine pw_callV (As := [.int (iZ i), .int (iZ j)]) (st := []) C (m_X5_scanAtom g l k8 k9 hfc (i := i) (j := j) (by omega) (by omega) (hat h_26)) my_X5_scanAtom ml_X5_69 (hR.rec C) rfl ⟨Nat.le_of_ble_eq_true rfl, Nat.le_of_ble_eq_true rfl⟩ ⟨by (try dsimp only); omega, by (try dsimp only); omega⟩ rfl (Nat.le_of_ble_eq_true rfl) dX5_faultOfWord_62 ?_
              rintro _ w1 ⟨rfl, h81, ho1⟩
              have hR1 := hR.obj h81 (fun k hk => ho1 k (by omega))
              obtain ⟨it1, fi1, aw1, k81, -⟩ := id hR1
              refine pw_stk (st' := [.int (iZ (b2i ((rAt f i j).isSome)))]) rfl ?_
              refine pw_if_neB (tgt := 70) C dX5_faultOfWord_65 (by decide) (fun h_30 => ?_) (fun h_30 => ?_)
              · refine pw_aload_n (i := 0) C dX5_faultOfWord_70 rfl rfl (Or.inr ⟨_, rfl⟩) ?_
                refine pw_iload_n (i := 3) C dX5_faultOfWord_71 rfl rfl ?_
                refine pw_callV (As := [.int (iZ (f i))]) (st := []) C (m_X5_mayStand g l hR1 hfc hFl hwd (c0 := f i) (by omega)) my_X5_mayStand ml_X5_73 (hR1.rec C) rfl ⟨Nat.le_of_ble_eq_true rfl, Nat.le_of_ble_eq_true rfl⟩ ⟨by (try dsimp only); omega, by (try dsimp only); omega⟩ rfl (Nat.le_of_ble_eq_true rfl) dX5_faultOfWord_72 ?_
                rintro _ _ ⟨rfl, rfl⟩
                refine pw_stk (st' := [.int (iZ (b2i (mSt (f i) dn F)))]) rfl ?_
                refine pw_if_neB (tgt := 80) C dX5_faultOfWord_75 (by decide) (fun h_31 => ?_) (fun h_31 => ?_)
                · refine pw_iload C dX5_faultOfWord_80 rfl ?_
                  refine pw_if_eq (tgt := 96) C (by omega) dX5_faultOfWord_82 (by decide) (fun h_32 => ?_) (fun h_32 => ?_)
                  · refine pw_aload_n (i := 0) C dX5_faultOfWord_96 rfl rfl (Or.inr ⟨_, rfl⟩) ?_
                    refine pw_get (j := 10) C cl_X5 fl_X5_45 (by decide) rfl h81 rfl dX5_faultOfWord_97 ?_
                    refine pw_sipush C dX5_faultOfWord_100 (by decide) ?_
                    refine pw_icmp_lt (tgt := 110) C (by omega) (by omega) dX5_faultOfWord_103 (by decide) (fun h_33 => ?_) (fun h_33 => ?_)
                    · refine pw_iconst C dX5_faultOfWord_110 ?_
                      exact pw_iret C hr dX5_faultOfWord_111 ⟨by rw [rFa_g (Or.inr (Or.inr (Or.inr (Or.inl (by omega))))) (fun _ => h_30), if_neg (by rw [h_31]; decide), if_neg (fun q => by have := q.1; omega), if_neg (by omega)]; rfl, ⟨_, _, _, hR1, fun _ => ⟨rfl, rfl, rfl⟩⟩, fun k hk => ho1 k hk⟩
                    · refine pw_iconst C dX5_faultOfWord_106 ?_
                      refine pw_goto (tgt := 111) C dX5_faultOfWord_107 (by decide) ?_
                      exact pw_iret C hr dX5_faultOfWord_111 ⟨by rw [rFa_g (Or.inr (Or.inr (Or.inr (Or.inl (by omega))))) (fun _ => h_30), if_neg (by rw [h_31]; decide), if_neg (fun q => by have := q.1; omega), if_pos (by omega)]; rfl, ⟨_, _, _, hR1, fun _ => ⟨rfl, rfl, rfl⟩⟩, fun k hk => ho1 k hk⟩
                  · exfalso; omega
                · refine pw_iconst C dX5_faultOfWord_78 ?_
                  exact pw_iret C hr dX5_faultOfWord_79 ⟨by rw [rFa_g (Or.inr (Or.inr (Or.inr (Or.inl (by omega))))) (fun _ => h_30), if_pos h_31]; rfl, ⟨_, _, _, hR1, fun _ => ⟨rfl, rfl, rfl⟩⟩, fun k hk => ho1 k hk⟩
              · refine pw_iconst C dX5_faultOfWord_68 ?_
                exact pw_iret C hr dX5_faultOfWord_69 ⟨by rw [rFa_2 h_26 h_30]; rfl, ⟨_, _, _, hR1, fun _ => ⟨rfl, rfl, rfl⟩⟩, fun k hk => ho1 k hk⟩
          · refine pw_iload_n (i := 3) C dX5_faultOfWord_43 rfl rfl ?_
            refine pw_callS (As := [.int (iZ (f i))]) (st := []) C (m_X5_isAtomLetter g l (c0 := f i) (by omega)) my_X5_isAtomLetter ml_X5_65 rfl ⟨Nat.le_of_ble_eq_true rfl, Nat.le_of_ble_eq_true rfl⟩ ⟨by (try dsimp only); omega, by (try dsimp only); omega⟩ rfl (Nat.le_of_ble_eq_true rfl) dX5_faultOfWord_44 ?_
            rintro _ _ ⟨rfl, rfl⟩
            refine pw_stk (st' := [.int (iZ (b2i (atL (f i))))]) rfl ?_
            refine pw_if_neB (tgt := 52) C dX5_faultOfWord_47 (by decide) (fun h_34 => ?_) (fun h_34 => ?_)
            · refine pw_iload_n (i := 3) C dX5_faultOfWord_52 rfl rfl ?_
              refine pw_callS (As := [.int (iZ (f i))]) (st := []) C (m_X5_isAtomLetter g l (c0 := f i) (by omega)) my_X5_isAtomLetter ml_X5_65 rfl ⟨Nat.le_of_ble_eq_true rfl, Nat.le_of_ble_eq_true rfl⟩ ⟨by (try dsimp only); omega, by (try dsimp only); omega⟩ rfl (Nat.le_of_ble_eq_true rfl) dX5_faultOfWord_53 ?_
              rintro _ _ ⟨rfl, rfl⟩
              refine pw_stk (st' := [.int (iZ (b2i (atL (f i))))]) rfl ?_
              refine pw_if_eqB (tgt := 70) C dX5_faultOfWord_56 (by decide) (fun h_35 => ?_) (fun h_35 => ?_)
              · refine pw_aload_n (i := 0) C dX5_faultOfWord_70 rfl rfl (Or.inr ⟨_, rfl⟩) ?_
                refine pw_iload_n (i := 3) C dX5_faultOfWord_71 rfl rfl ?_
                refine pw_callV (As := [.int (iZ (f i))]) (st := []) C (m_X5_mayStand g l hR hfc hFl hwd (c0 := f i) (by omega)) my_X5_mayStand ml_X5_73 (hR.rec C) rfl ⟨Nat.le_of_ble_eq_true rfl, Nat.le_of_ble_eq_true rfl⟩ ⟨by (try dsimp only); omega, by (try dsimp only); omega⟩ rfl (Nat.le_of_ble_eq_true rfl) dX5_faultOfWord_72 ?_
                rintro _ _ ⟨rfl, rfl⟩
                refine pw_stk (st' := [.int (iZ (b2i (mSt (f i) dn F)))]) rfl ?_
                refine pw_if_neB (tgt := 80) C dX5_faultOfWord_75 (by decide) (fun h_36 => ?_) (fun h_36 => ?_)
                · refine pw_iload C dX5_faultOfWord_80 rfl ?_
                  refine pw_if_eq (tgt := 96) C (by omega) dX5_faultOfWord_82 (by decide) (fun h_37 => ?_) (fun h_37 => ?_)
                  · refine pw_aload_n (i := 0) C dX5_faultOfWord_96 rfl rfl (Or.inr ⟨_, rfl⟩) ?_
                    refine pw_get (j := 10) C cl_X5 fl_X5_45 (by decide) rfl k8 rfl dX5_faultOfWord_97 ?_
                    refine pw_sipush C dX5_faultOfWord_100 (by decide) ?_
                    refine pw_icmp_lt (tgt := 110) C (by omega) (by omega) dX5_faultOfWord_103 (by decide) (fun h_38 => ?_) (fun h_38 => ?_)
                    · refine pw_iconst C dX5_faultOfWord_110 ?_
                      exact pw_iret C hr dX5_faultOfWord_111 ⟨by rw [rFa_g (Or.inr (Or.inr (Or.inr (Or.inr h_34)))) (fun q => by rw [h_35] at q; cases q), if_neg (by rw [h_36]; decide), if_neg (fun q => by have := q.1; omega), if_neg (by omega)]; rfl, ⟨_, _, _, hR, fun q => by rw [h_35] at q; cases q⟩, fun _ _ => rfl⟩
                    · refine pw_iconst C dX5_faultOfWord_106 ?_
                      refine pw_goto (tgt := 111) C dX5_faultOfWord_107 (by decide) ?_
                      exact pw_iret C hr dX5_faultOfWord_111 ⟨by rw [rFa_g (Or.inr (Or.inr (Or.inr (Or.inr h_34)))) (fun q => by rw [h_35] at q; cases q), if_neg (by rw [h_36]; decide), if_neg (fun q => by have := q.1; omega), if_pos (by omega)]; rfl, ⟨_, _, _, hR, fun q => by rw [h_35] at q; cases q⟩, fun _ _ => rfl⟩
                  · exfalso; omega
                · refine pw_iconst C dX5_faultOfWord_78 ?_
                  exact pw_iret C hr dX5_faultOfWord_79 ⟨by rw [rFa_g (Or.inr (Or.inr (Or.inr (Or.inr h_34)))) (fun q => by rw [h_35] at q; cases q), if_pos h_36]; rfl, ⟨_, _, _, hR, fun q => by rw [h_35] at q; cases q⟩, fun _ _ => rfl⟩
              · refine pw_aload_n (i := 0) C dX5_faultOfWord_59 rfl rfl (Or.inr ⟨_, rfl⟩) ?_
                refine pw_iload_n (i := 1) C dX5_faultOfWord_60 rfl rfl ?_
                refine pw_iload_n (i := 2) C dX5_faultOfWord_61 rfl rfl ?_
                refine pw_callV (As := [.int (iZ i), .int (iZ j)]) (st := []) C (m_X5_scanAtom g l k8 k9 hfc (i := i) (j := j) (by omega) (by omega) (hat h_35)) my_X5_scanAtom ml_X5_69 (hR.rec C) rfl ⟨Nat.le_of_ble_eq_true rfl, Nat.le_of_ble_eq_true rfl⟩ ⟨by (try dsimp only); omega, by (try dsimp only); omega⟩ rfl (Nat.le_of_ble_eq_true rfl) dX5_faultOfWord_62 ?_
                rintro _ w1 ⟨rfl, h81, ho1⟩
                have hR1 := hR.obj h81 (fun k hk => ho1 k (by omega))
                obtain ⟨it1, fi1, aw1, k81, -⟩ := id hR1
                refine pw_stk (st' := [.int (iZ (b2i ((rAt f i j).isSome)))]) rfl ?_
                refine pw_if_neB (tgt := 70) C dX5_faultOfWord_65 (by decide) (fun h_39 => ?_) (fun h_39 => ?_)
                · refine pw_aload_n (i := 0) C dX5_faultOfWord_70 rfl rfl (Or.inr ⟨_, rfl⟩) ?_
                  refine pw_iload_n (i := 3) C dX5_faultOfWord_71 rfl rfl ?_
                  refine pw_callV (As := [.int (iZ (f i))]) (st := []) C (m_X5_mayStand g l hR1 hfc hFl hwd (c0 := f i) (by omega)) my_X5_mayStand ml_X5_73 (hR1.rec C) rfl ⟨Nat.le_of_ble_eq_true rfl, Nat.le_of_ble_eq_true rfl⟩ ⟨by (try dsimp only); omega, by (try dsimp only); omega⟩ rfl (Nat.le_of_ble_eq_true rfl) dX5_faultOfWord_72 ?_
                  rintro _ _ ⟨rfl, rfl⟩
                  refine pw_stk (st' := [.int (iZ (b2i (mSt (f i) dn F)))]) rfl ?_
                  refine pw_if_neB (tgt := 80) C dX5_faultOfWord_75 (by decide) (fun h_40 => ?_) (fun h_40 => ?_)
                  · refine pw_iload C dX5_faultOfWord_80 rfl ?_
                    refine pw_if_eq (tgt := 96) C (by omega) dX5_faultOfWord_82 (by decide) (fun h_41 => ?_) (fun h_41 => ?_)
                    · refine pw_aload_n (i := 0) C dX5_faultOfWord_96 rfl rfl (Or.inr ⟨_, rfl⟩) ?_
                      refine pw_get (j := 10) C cl_X5 fl_X5_45 (by decide) rfl h81 rfl dX5_faultOfWord_97 ?_
                      refine pw_sipush C dX5_faultOfWord_100 (by decide) ?_
                      refine pw_icmp_lt (tgt := 110) C (by omega) (by omega) dX5_faultOfWord_103 (by decide) (fun h_42 => ?_) (fun h_42 => ?_)
                      · refine pw_iconst C dX5_faultOfWord_110 ?_
                        exact pw_iret C hr dX5_faultOfWord_111 ⟨by rw [rFa_g (Or.inr (Or.inr (Or.inr (Or.inr h_34)))) (fun _ => h_39), if_neg (by rw [h_40]; decide), if_neg (fun q => by have := q.1; omega), if_neg (by omega)]; rfl, ⟨_, _, _, hR1, fun _ => ⟨rfl, rfl, rfl⟩⟩, fun k hk => ho1 k hk⟩
                      · refine pw_iconst C dX5_faultOfWord_106 ?_
                        refine pw_goto (tgt := 111) C dX5_faultOfWord_107 (by decide) ?_
                        exact pw_iret C hr dX5_faultOfWord_111 ⟨by rw [rFa_g (Or.inr (Or.inr (Or.inr (Or.inr h_34)))) (fun _ => h_39), if_neg (by rw [h_40]; decide), if_neg (fun q => by have := q.1; omega), if_pos (by omega)]; rfl, ⟨_, _, _, hR1, fun _ => ⟨rfl, rfl, rfl⟩⟩, fun k hk => ho1 k hk⟩
                    · exfalso; omega
                  · refine pw_iconst C dX5_faultOfWord_78 ?_
                    exact pw_iret C hr dX5_faultOfWord_79 ⟨by rw [rFa_g (Or.inr (Or.inr (Or.inr (Or.inr h_34)))) (fun _ => h_39), if_pos h_40]; rfl, ⟨_, _, _, hR1, fun _ => ⟨rfl, rfl, rfl⟩⟩, fun k hk => ho1 k hk⟩
                · refine pw_iconst C dX5_faultOfWord_68 ?_
                  exact pw_iret C hr dX5_faultOfWord_69 ⟨by rw [rFa_2 h_35 h_39]; rfl, ⟨_, _, _, hR1, fun _ => ⟨rfl, rfl, rfl⟩⟩, fun k hk => ho1 k hk⟩
            · refine pw_iconst C dX5_faultOfWord_50 ?_
              exact pw_iret C hr dX5_faultOfWord_51 ⟨by rw [rFa_1 (by omega) (by omega) (by omega) (by omega) h_34]; rfl, ⟨_, _, _, hR, fun q => by rw [h_34] at q; cases q⟩, fun _ _ => rfl⟩
    · refine pw_iconst C dX5_faultOfWord_19 ?_
      refine pw_goto (tgt := 24) C dX5_faultOfWord_20 (by decide) ?_
      refine pw_istore (lv' := [(0, .ref (A 8)), (1, .int (iZ i)), (2, .int (iZ j)), (3, .int (iZ (f i))), (4, .int (iZ 1))]) C dX5_faultOfWord_24 (by decide) rfl ?_
      refine pw_iload C dX5_faultOfWord_26 rfl ?_
      refine pw_if_ne (tgt := 52) C (by omega) dX5_faultOfWord_28 (by decide) (fun h_43 => ?_) (fun h_43 => ?_)
      · refine pw_iload_n (i := 3) C dX5_faultOfWord_52 rfl rfl ?_
        refine pw_callS (As := [.int (iZ (f i))]) (st := []) C (m_X5_isAtomLetter g l (c0 := f i) (by omega)) my_X5_isAtomLetter ml_X5_65 rfl ⟨Nat.le_of_ble_eq_true rfl, Nat.le_of_ble_eq_true rfl⟩ ⟨by (try dsimp only); omega, by (try dsimp only); omega⟩ rfl (Nat.le_of_ble_eq_true rfl) dX5_faultOfWord_53 ?_
        rintro _ _ ⟨rfl, rfl⟩
        refine pw_stk (st' := [.int (iZ (b2i (atL (f i))))]) rfl ?_
        refine pw_if_eqB (tgt := 70) C dX5_faultOfWord_56 (by decide) (fun h_44 => ?_) (fun h_44 => ?_)
        · refine pw_aload_n (i := 0) C dX5_faultOfWord_70 rfl rfl (Or.inr ⟨_, rfl⟩) ?_
          refine pw_iload_n (i := 3) C dX5_faultOfWord_71 rfl rfl ?_
          refine pw_callV (As := [.int (iZ (f i))]) (st := []) C (m_X5_mayStand g l hR hfc hFl hwd (c0 := f i) (by omega)) my_X5_mayStand ml_X5_73 (hR.rec C) rfl ⟨Nat.le_of_ble_eq_true rfl, Nat.le_of_ble_eq_true rfl⟩ ⟨by (try dsimp only); omega, by (try dsimp only); omega⟩ rfl (Nat.le_of_ble_eq_true rfl) dX5_faultOfWord_72 ?_
          rintro _ _ ⟨rfl, rfl⟩
          refine pw_stk (st' := [.int (iZ (b2i (mSt (f i) dn F)))]) rfl ?_
          refine pw_if_neB (tgt := 80) C dX5_faultOfWord_75 (by decide) (fun h_45 => ?_) (fun h_45 => ?_)
          · refine pw_iload C dX5_faultOfWord_80 rfl ?_
            refine pw_if_eq (tgt := 96) C (by omega) dX5_faultOfWord_82 (by decide) (fun h_46 => ?_) (fun h_46 => ?_)
            · exfalso; omega
            · refine pw_aload_n (i := 0) C dX5_faultOfWord_85 rfl rfl (Or.inr ⟨_, rfl⟩) ?_
              refine pw_get (j := 9) C cl_X5 fl_X5_42 (by decide) rfl k8 rfl dX5_faultOfWord_86 ?_
              refine pw_bipush C dX5_faultOfWord_89 (by decide) ?_
              refine pw_icmp_lt (tgt := 96) C (by omega) (by omega) dX5_faultOfWord_91 (by decide) (fun h_47 => ?_) (fun h_47 => ?_)
              · refine pw_aload_n (i := 0) C dX5_faultOfWord_96 rfl rfl (Or.inr ⟨_, rfl⟩) ?_
                refine pw_get (j := 10) C cl_X5 fl_X5_45 (by decide) rfl k8 rfl dX5_faultOfWord_97 ?_
                refine pw_sipush C dX5_faultOfWord_100 (by decide) ?_
                refine pw_icmp_lt (tgt := 110) C (by omega) (by omega) dX5_faultOfWord_103 (by decide) (fun h_48 => ?_) (fun h_48 => ?_)
                · refine pw_iconst C dX5_faultOfWord_110 ?_
                  exact pw_iret C hr dX5_faultOfWord_111 ⟨by rw [rFa_g (Or.inr (Or.inl (by omega))) (fun q => by rw [h_44] at q; cases q), if_neg (by rw [h_45]; decide), if_neg (fun q => by have := q.1; omega), if_neg (by omega)]; rfl, ⟨_, _, _, hR, fun q => by rw [h_44] at q; cases q⟩, fun _ _ => rfl⟩
                · refine pw_iconst C dX5_faultOfWord_106 ?_
                  refine pw_goto (tgt := 111) C dX5_faultOfWord_107 (by decide) ?_
                  exact pw_iret C hr dX5_faultOfWord_111 ⟨by rw [rFa_g (Or.inr (Or.inl (by omega))) (fun q => by rw [h_44] at q; cases q), if_neg (by rw [h_45]; decide), if_neg (fun q => by have := q.1; omega), if_pos (by omega)]; rfl, ⟨_, _, _, hR, fun q => by rw [h_44] at q; cases q⟩, fun _ _ => rfl⟩
              · refine pw_iconst C dX5_faultOfWord_94 ?_
                exact pw_iret C hr dX5_faultOfWord_95 ⟨by rw [rFa_g (Or.inr (Or.inl (by omega))) (fun q => by rw [h_44] at q; cases q), if_neg (by rw [h_45]; decide), if_pos ⟨by omega, by omega⟩]; rfl, ⟨_, _, _, hR, fun q => by rw [h_44] at q; cases q⟩, fun _ _ => rfl⟩
          · refine pw_iconst C dX5_faultOfWord_78 ?_
            exact pw_iret C hr dX5_faultOfWord_79 ⟨by rw [rFa_g (Or.inr (Or.inl (by omega))) (fun q => by rw [h_44] at q; cases q), if_pos h_45]; rfl, ⟨_, _, _, hR, fun q => by rw [h_44] at q; cases q⟩, fun _ _ => rfl⟩
        · refine pw_aload_n (i := 0) C dX5_faultOfWord_59 rfl rfl (Or.inr ⟨_, rfl⟩) ?_
          refine pw_iload_n (i := 1) C dX5_faultOfWord_60 rfl rfl ?_
          refine pw_iload_n (i := 2) C dX5_faultOfWord_61 rfl rfl ?_
          refine pw_callV (As := [.int (iZ i), .int (iZ j)]) (st := []) C (m_X5_scanAtom g l k8 k9 hfc (i := i) (j := j) (by omega) (by omega) (hat h_44)) my_X5_scanAtom ml_X5_69 (hR.rec C) rfl ⟨Nat.le_of_ble_eq_true rfl, Nat.le_of_ble_eq_true rfl⟩ ⟨by (try dsimp only); omega, by (try dsimp only); omega⟩ rfl (Nat.le_of_ble_eq_true rfl) dX5_faultOfWord_62 ?_
          rintro _ w1 ⟨rfl, h81, ho1⟩
          have hR1 := hR.obj h81 (fun k hk => ho1 k (by omega))
          obtain ⟨it1, fi1, aw1, k81, -⟩ := id hR1
          refine pw_stk (st' := [.int (iZ (b2i ((rAt f i j).isSome)))]) rfl ?_
          refine pw_if_neB (tgt := 70) C dX5_faultOfWord_65 (by decide) (fun h_49 => ?_) (fun h_49 => ?_)
          · refine pw_aload_n (i := 0) C dX5_faultOfWord_70 rfl rfl (Or.inr ⟨_, rfl⟩) ?_
            refine pw_iload_n (i := 3) C dX5_faultOfWord_71 rfl rfl ?_
            refine pw_callV (As := [.int (iZ (f i))]) (st := []) C (m_X5_mayStand g l hR1 hfc hFl hwd (c0 := f i) (by omega)) my_X5_mayStand ml_X5_73 (hR1.rec C) rfl ⟨Nat.le_of_ble_eq_true rfl, Nat.le_of_ble_eq_true rfl⟩ ⟨by (try dsimp only); omega, by (try dsimp only); omega⟩ rfl (Nat.le_of_ble_eq_true rfl) dX5_faultOfWord_72 ?_
            rintro _ _ ⟨rfl, rfl⟩
            refine pw_stk (st' := [.int (iZ (b2i (mSt (f i) dn F)))]) rfl ?_
            refine pw_if_neB (tgt := 80) C dX5_faultOfWord_75 (by decide) (fun h_50 => ?_) (fun h_50 => ?_)
            · refine pw_iload C dX5_faultOfWord_80 rfl ?_
              refine pw_if_eq (tgt := 96) C (by omega) dX5_faultOfWord_82 (by decide) (fun h_51 => ?_) (fun h_51 => ?_)
              · exfalso; omega
              · refine pw_aload_n (i := 0) C dX5_faultOfWord_85 rfl rfl (Or.inr ⟨_, rfl⟩) ?_
                refine pw_get (j := 9) C cl_X5 fl_X5_42 (by decide) rfl h81 rfl dX5_faultOfWord_86 ?_
                refine pw_bipush C dX5_faultOfWord_89 (by decide) ?_
                refine pw_icmp_lt (tgt := 96) C (by omega) (by omega) dX5_faultOfWord_91 (by decide) (fun h_52 => ?_) (fun h_52 => ?_)
                · refine pw_aload_n (i := 0) C dX5_faultOfWord_96 rfl rfl (Or.inr ⟨_, rfl⟩) ?_
                  refine pw_get (j := 10) C cl_X5 fl_X5_45 (by decide) rfl h81 rfl dX5_faultOfWord_97 ?_
                  refine pw_sipush C dX5_faultOfWord_100 (by decide) ?_
                  refine pw_icmp_lt (tgt := 110) C (by omega) (by omega) dX5_faultOfWord_103 (by decide) (fun h_53 => ?_) (fun h_53 => ?_)
                  · refine pw_iconst C dX5_faultOfWord_110 ?_
                    exact pw_iret C hr dX5_faultOfWord_111 ⟨by rw [rFa_g (Or.inr (Or.inl (by omega))) (fun _ => h_49), if_neg (by rw [h_50]; decide), if_neg (fun q => by have := q.1; omega), if_neg (by omega)]; rfl, ⟨_, _, _, hR1, fun _ => ⟨rfl, rfl, rfl⟩⟩, fun k hk => ho1 k hk⟩
                  · refine pw_iconst C dX5_faultOfWord_106 ?_
                    refine pw_goto (tgt := 111) C dX5_faultOfWord_107 (by decide) ?_
                    exact pw_iret C hr dX5_faultOfWord_111 ⟨by rw [rFa_g (Or.inr (Or.inl (by omega))) (fun _ => h_49), if_neg (by rw [h_50]; decide), if_neg (fun q => by have := q.1; omega), if_pos (by omega)]; rfl, ⟨_, _, _, hR1, fun _ => ⟨rfl, rfl, rfl⟩⟩, fun k hk => ho1 k hk⟩
                · refine pw_iconst C dX5_faultOfWord_94 ?_
                  exact pw_iret C hr dX5_faultOfWord_95 ⟨by rw [rFa_g (Or.inr (Or.inl (by omega))) (fun _ => h_49), if_neg (by rw [h_50]; decide), if_pos ⟨by omega, by omega⟩]; rfl, ⟨_, _, _, hR1, fun _ => ⟨rfl, rfl, rfl⟩⟩, fun k hk => ho1 k hk⟩
            · refine pw_iconst C dX5_faultOfWord_78 ?_
              exact pw_iret C hr dX5_faultOfWord_79 ⟨by rw [rFa_g (Or.inr (Or.inl (by omega))) (fun _ => h_49), if_pos h_50]; rfl, ⟨_, _, _, hR1, fun _ => ⟨rfl, rfl, rfl⟩⟩, fun k hk => ho1 k hk⟩
          · refine pw_iconst C dX5_faultOfWord_68 ?_
            exact pw_iret C hr dX5_faultOfWord_69 ⟨by rw [rFa_2 h_44 h_49]; rfl, ⟨_, _, _, hR1, fun _ => ⟨rfl, rfl, rfl⟩⟩, fun k hk => ho1 k hk⟩
      · exfalso; omega

set_option maxRecDepth 100000 in
set_option maxHeartbeats 4000000 in
/-- openAt -/
theorem m_X5_openAt (g : pw_P) (l : Launch) {w : pw_W} {A : Nat → Nat} {t : Int → Ob} {n : Int} {F : List Rf} {ln fa pl : Int} {wd : Nat} {dg : Bool} {am sp : Int} {f : Int → Int} (hR : RdS g w A t n none F ln fa pl ((wd : Nat) : Int) dg am sp f) (hfc : ∀ j, 0 ≤ f j ∧ f j < 256) (hFl : F.length < 40) (hwd : wd ≤ 1000) {kd : Nat} {x : Int} (hkd : x = awc (kd, [], oNil)) (hk2 : kd ≠ 2) (hx : inI x) (hIC : (fls F).length ≤ 1000) : pw_M g l yX5_openAt cX5_openAt 2 none { frames := 0, cells := 0, slots := 0, locals := 0 } [.ref (A 8), .int (iZ x)] w (fun r w' => r = none ∧ RdS g w' A t n none ((kd, [], oNil) :: F) ln fa pl ((wd : Nat) : Int) dg am sp f ∧ ∀ k, (k < 8 ∨ 12 < k) → w' k = w k) := by
  refine pw_M.of (by decide) (Nat.le_of_ble_eq_true rfl) rfl ?_
  intro p e s m args below meth c C hr hn
  obtain ⟨it, fi, aw, k8, k9, k10, k11, k12, ki, kf, ka, kz, kw, kv⟩ := id hR
  have hfe : fls ((kd, [], oNil) :: F) = fls F := by simp [fls, hk2]
  have hicw := fls_len F
  have hil : (fls F).length ≤ 1000 := hIC
  have hile : ((none : Option Ob).toList ++ fls F).length = (fls F).length := by simp
  refine pw_aload_n (i := 0) C dX5_openAt_0 rfl rfl (Or.inr ⟨_, rfl⟩) ?_
  refine pw_get (j := 9) C cl_X5 fl_X5_42 (by decide) rfl k8 rfl dX5_openAt_1 ?_
  refine pw_bipush C dX5_openAt_4 (by decide) ?_
  refine pw_icmp_ge (tgt := 42) C (by omega) (by omega) dX5_openAt_6 (by decide) (fun h_1 => ?_) (fun h_1 => ?_)
  · exfalso; omega
  · refine pw_aload_n (i := 0) C dX5_openAt_9 rfl rfl (Or.inr ⟨_, rfl⟩) ?_
    refine pw_dup C dX5_openAt_10 rfl ?_
    refine pw_get (j := 9) C cl_X5 fl_X5_42 (by decide) rfl k8 rfl dX5_openAt_11 ?_
    refine pw_iconst C dX5_openAt_14 ?_
    refine pw_iadd C dX5_openAt_15 ?_
    refine pw_put (j := 9) C cl_X5 fl_X5_42 (by decide) rfl rfl rfl rfl rfl k8 (Nat.le_of_ble_eq_true rfl) dX5_openAt_16 (fun w_4 k_2 o_3 => ?_)
    have k_5 : w_4 8 = ((A 8), some (OB 5 [.ref (A 2), .ref (A 9), .int (iZ ln), .int (iZ fa), .int (iZ pl), .ref (A 10), .int (iZ (((Option.toList (none : Option Ob) ++ fls F).length : Nat) : Int)), .ref (A 11), .ref (A 12), .int (iZ (((F.length : Nat) : Int) + 1)), .int (iZ ((wd : Nat) : Int)), .int (iZ (b2i dg)), .long (lZ am), .long (lZ sp)])) := k_2
    refine pw_aload_n (i := 0) C dX5_openAt_19 rfl rfl (Or.inr ⟨_, rfl⟩) ?_
    refine pw_get (j := 8) C cl_X5 fl_X5_26 (by decide) rfl k_5 rfl dX5_openAt_20 ?_
    refine pw_aload_n (i := 0) C dX5_openAt_23 rfl rfl (Or.inr ⟨_, rfl⟩) ?_
    refine pw_get (j := 9) C cl_X5 fl_X5_42 (by decide) rfl k_5 rfl dX5_openAt_24 ?_
    refine pw_iload_n (i := 1) C dX5_openAt_27 rfl rfl ?_
    have c_6 := (o_3 12 (by omega)).trans k12
    refine pw_iast C c_6 ⟨by omega, by omega, by omega⟩ dX5_openAt_28 (fun w_9 k_7 o_8 => ?_)
    refine pw_aload_n (i := 0) C dX5_openAt_29 rfl rfl (Or.inr ⟨_, rfl⟩) ?_
    have c_10 := (o_8 8 (by omega)).trans k_5
    refine pw_get (j := 7) C cl_X5 fl_X5_23 (by decide) rfl c_10 rfl dX5_openAt_30 ?_
    refine pw_aload_n (i := 0) C dX5_openAt_33 rfl rfl (Or.inr ⟨_, rfl⟩) ?_
    refine pw_get (j := 9) C cl_X5 fl_X5_42 (by decide) rfl c_10 rfl dX5_openAt_34 ?_
    refine pw_aload_n (i := 0) C dX5_openAt_37 rfl rfl (Or.inr ⟨_, rfl⟩) ?_
    refine pw_get (j := 6) C cl_X5 fl_X5_39 (by decide) rfl c_10 rfl dX5_openAt_38 ?_
    have c_11 := ((o_8 11 (by omega)).trans (o_3 11 (by omega))).trans k11
    refine pw_iast C c_11 ⟨by omega, by omega, by omega⟩ dX5_openAt_41 (fun w_14 k_12 o_13 => ?_)
    have c_15 := (o_13 8 (by omega)).trans c_10
    have c_16 := ((o_13 9 (by omega)).trans ((o_8 9 (by omega)).trans (o_3 9 (by omega)))).trans k9
    have c_17 := ((o_13 10 (by omega)).trans ((o_8 10 (by omega)).trans (o_3 10 (by omega)))).trans k10
    have c_18 := (o_13 12 (by omega)).trans k_7
    refine pw_vret C hr dX5_openAt_42 ⟨rfl, ⟨it, _, _, ?_, c_16, c_17, k_12, c_18, ki, upz_inI kf (by omega), upz_inI ka (by omega), ?_, ⟨?_, ?_, kw.keep (fun j hj => ⟨upz_ne _ _ (by omega), upz_ne _ _ (by omega)⟩)⟩, ?_⟩, fun k hk => (o_13 k (by omega)).trans ((o_8 k (by omega)).trans (o_3 k (by omega)))⟩
    · rw [c_15, hfe, show (((kd, [], oNil) :: F : List Rf).length : Int) = (F.length : Int) + 1 by simp]
    · rw [upz_ne _ _ (by omega)]; exact kz
    · rw [show ((F.length + 1 : Nat) : Int) = (F.length : Int) + 1 by omega, upz_self]; exact hkd
    · rw [show ((F.length + 1 : Nat) : Int) = (F.length : Int) + 1 by omega, upz_self, ← fls_len]; rfl
    · rw [hfe]; exact kv

