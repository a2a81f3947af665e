theorem atL_ps : atL 40 = false ∧ atL 39 = false ∧ atL 41 = false ∧ atL 46 = false := by decide +kernel
theorem MdX.of {x x' : Nat → Int} {t t' : Int → Ob} {n n' : Int} {dn : Option Ob} {F : List Rf} (h : MdX x t n dn F) (he : Ext t n t' n') (h1 : x' 27 = x 27) (h2 : x' 29 = x 29) (h3 : x' 31 = x 31) (h4 : x' 30 = x 30) : MdX x' t' n' dn F := ⟨h1.trans h.1, h2.trans h.2.1, h3.trans h.2.2.1, fun v hv => by rw [h4]; exact (h.2.2.2 v hv).ext he⟩
theorem MdA.nil {g : pw_P} {w : pw_W} {B : Nat → Nat} {t : Int → Ob} {n : Int} {F : List Rf} (h : MdA g w B t n F) : MdA g w B t n [] := by
  obtain ⟨so, fr, st, la, it, b1, b2, b3, b4, b5, hr, hF, hI⟩ := h
  exact ⟨so, fr, st, la, it, b1, b2, b3, b4, b5, hr, trivial, trivial⟩
abbrev wdX (x : Nat → Int) (n s q a fa pl o i h d : Int) : Nat → Int := va_up (va_up (va_up (va_up (va_up (va_up (va_up (va_up (va_up (va_up x 7 n) 10 s) 17 q) 20 a) 21 fa) 22 pl) 27 o) 29 i) 30 h) 31 d
def wFr (w w' : pw_W) : Prop := ∀ k, (k < 1000 ∨ k = 1008 ∨ (1010 < k ∧ k < 1017) ∨ (1017 < k ∧ k < 1024) ∨ k = 1028 ∨ 1029 < k) → w' k = w k
def rWP (g : pw_P) (w w' : pw_W) (b : Nat) (B : Nat → Nat) (x : Nat → Int) (t : Int → Ob) (n : Int) (sN : Nat) (fZ f : Int → Int) (len : Nat) (i : Int) (wd : Nat) (dn : Option Ob) (F : List Rf) (r : Option Value) : Prop :=
  r = none ∧ ∃ (t' : Int → Ob) (n' : Int) (s' : Nat) (fZ' : Int → Int) (q' a' pl' o' i' h' d' : Int) (fW' : Int → Int), w' 1000 = (b, some (mdE B (wdX x n' ((s' : Nat) : Int) q' a' ((rFa f i (rEnd f len i) wd dn F : Nat) : Int) pl' o' i' h' d'))) ∧ RS g w' B t' n' s' fZ' ∧ Ext t n t' n' ∧ s' ≤ sN + (if atL (f i) then 1 else 0) ∧ (∀ j : Int, 0 ≤ j → j < n → fZ' j = fZ j) ∧ w' 1017 = (B 16, some (AI g 12 fW')) ∧ (∀ j, inI (fW' j)) ∧ wFr w w' ∧
  (if rFa f i (rEnd f len i) wd dn F = 0 then pl' = x 22 ∧ a' = rEnd f len i ∧ MdA g w' B t' n' (rTk f i (rEnd f len i) dn F).2 ∧ MdX (wdX x n' ((s' : Nat) : Int) q' a' ((rFa f i (rEnd f len i) wd dn F : Nat) : Int) pl' o' i' h' d') t' n' (rTk f i (rEnd f len i) dn F).1 (rTk f i (rEnd f len i) dn F).2 ∧ n' + ((icn (rTk f i (rEnd f len i) dn F).2 : Nat) : Int) + 2 * ((qcn (rTk f i (rEnd f len i) dn F).2 : Nat) : Int) ≤ n + ((icn F : Nat) : Int) + 2 * ((qcn F : Nat) : Int) + 2
    else pl' = i ∧ MdA g w' B t' n' [] ∧ (i ≤ a' ∧ a' ≤ len) ∧ n' ≤ n + 1)
theorem isLs_pos {F : List Rf} (h : isLs F = true) : 0 < F.length := by
  cases F with
  | nil => cases h
  | cons q F => simp
theorem mCls_no {F : List Rf} (h : isLs F = false) (hk : ∀ q ∈ F, q.1 ≤ 3) : mCls F = false ∧ mDot F = false := by
  cases F with
  | nil => exact ⟨rfl, rfl⟩
  | cons q F =>
    have h3 : q.1 = 3 := by simpa [isLs] using h
    exact ⟨decide_eq_false (by omega), decide_eq_false (by omega)⟩
theorem isSome_of {X : Option Ob} (h : X ≠ none) : X.isSome = true := by cases X with | none => exact absurd rfl h | some Y => rfl
theorem nat_op {c : Int} (h : c = 40 ∨ c = 39) : atL c = false := by
  rcases h with q | q
  · rw [q]; exact atL_ps.1
  · rw [q]; exact atL_ps.2.1
set_option maxRecDepth 100000 in
set_option maxHeartbeats 4000000 in
/-- readWord -/
theorem m_X10_readWord (g : pw_P) (l : Launch) {w : pw_W} {b : Nat} {B : Nat → Nat} {x : Nat → Int} (h0 : w 1000 = (b, some (mdE B x))) {t : Int → Ob} {n : Int} {sN : Nat} {fZ : Int → Int} (hR : RS g w B t n sN fZ) (h7 : x 7 = n) (h10 : x 10 = ((sN : Nat) : Int)) (hK : RK t n) {f fW : Int → Int} {len : Nat} (a12 : w 1013 = (B 12, some (AI g 3000 f))) (hfc : ∀ j, 0 ≤ f j ∧ f j < 256) (hlen : len ≤ 3000) (h13 : x 13 = ((len : Nat) : Int)) (a16 : w 1017 = (B 16, some (AI g 12 fW))) (u16 : ∀ j, inI (fW j)) {dn : Option Ob} {F : List Rf} (hA : MdA g w B t n F) (hX : MdX x t n dn F) (hl40 : F.length ≤ 40) {wd : Nat} (hP : RdP wd dn F) (hwd : wd ≤ 1000) {i : Int} (h20 : x 20 = i) (h21 : x 21 = 0) (hi : 0 ≤ i ∧ i < ((len : Nat) : Int)) (hcap : n + ((icn F : Nat) : Int) + 2 * ((qcn F : Nat) : Int) + 2 ≤ 40000) (hsc : sN < 4000) : pw_M g l yX10_readWord cX10_readWord 6 none { frames := 6, cells := 0, slots := 0, locals := 134 } [.ref b, .int (iZ (((wd : Nat) : Int) + 1))] w (fun r w' => rWP g w w' b B x t n sN fZ f len i wd dn F r) := by
  refine pw_M.of (by decide) (Nat.le_of_ble_eq_true rfl) rfl ?_
  intro p e s m args below meth c C hr hn
  obtain ⟨so, fr, st, la, it, b1, b2, b3, b4, b5, ⟨v1, v2, v3, v4, v5⟩, hFr, hIt⟩ := id hA
  obtain ⟨x27, x29, x31, x30⟩ := id hX
  have hRn := hR.n
  have hfi : ∀ j, inI (f j) := fun j => by have := hfc j; omega
  have hci := hfc i
  have hre := rEnd_rng (f := f) (len := ((len : Nat) : Int)) (i := i) (by omega)
  have hicn := hP.2.1
  have hitl := itF_le F
  have main : ∀ lt : Bool, (lt = true ↔ 1000 ≤ wd) → pw_G g p l e { frames := 6, cells := 0, slots := 0, locals := 134 } s m args below meth c 6 (pw_Q g below (fun r w' => rWP g w w' b B x t n sN fZ f len i wd dn F r) args s { frames := 6, cells := 0, slots := 0, locals := 134 }) 0 0 29 [(0, .ref b), (1, .int (iZ (((wd : Nat) : Int) + 1))), (2, .int (iZ i)), (3, .int (iZ (f i))), (4, .int (iZ (b2i lt)))] [] w := by
    intro lt hlt
    refine pw_aload_n (i := 0) C dX10_readWord_29 rfl rfl (Or.inr ⟨_, rfl⟩) ?_
    refine pw_dup C dX10_readWord_30 rfl ?_
    refine pw_get (j := 20) C cl_X10 fl_X10_201 (by decide) rfl h0 rfl dX10_readWord_31 ?_
    refine pw_stk (st' := [.int (iZ (x 20)), .ref b]) rfl ?_
    refine pw_stk (st' := [.int (iZ i), .ref b]) (by rw [h20]) ?_
    refine pw_iconst C dX10_readWord_34 ?_
    refine pw_iadd C dX10_readWord_35 ?_
    refine pw_put (j := 20) C cl_X10 fl_X10_201 (by decide) rfl rfl rfl rfl rfl h0 (Nat.le_of_ble_eq_true rfl) dX10_readWord_36 (fun w_3003 k_3001 o_3002 => ?_)
    have k_3004 : w_3003 1000 = (b, some (mdE B (va_up x 20 (i + 1)))) := k_3001
    refine pw_iload_n (i := 3) C dX10_readWord_39 rfl rfl ?_
    refine pw_bipush C dX10_readWord_40 (by decide) ?_
    refine pw_icmp_eq (tgt := 51) C (by omega) (by omega) dX10_readWord_42 (by decide) (fun h_3005 => ?_) (fun h_3005 => ?_)
    · have hok1 : f i = 40 ∨ f i = 39 ∨ f i = 41 ∨ f i = 46 ∨ atL (f i) = true := Or.inl (by omega)
      have hnat : atL (f i) = false := nat_op (by omega)
      have hren : (rEnd f ((len : Nat) : Int) i) = i + 1 := by unfold rEnd; rw [if_neg (by rw [hnat]; decide)]
      refine pw_aload_n (i := 0) C dX10_readWord_51 rfl rfl (Or.inr ⟨_, rfl⟩) ?_
      have hAx := hA.same (w' := w_3003) (fun k hk => (o_3002 k (by omega))) Ext.rf
      have hXx : MdX (va_up x 20 (i + 1)) t n dn F := MdX.of hX Ext.rf rfl rfl rfl rfl
      refine pw_callV (As := []) (st := []) C (m_X10_mayBegin g l k_3004 hAx hXx hl40 (fun q hq => (hP.2.2.2.1 q hq).1)) my_X10_mayBegin ml_X10_236 (pw_rec.of C k_3004 cl_X10.1) rfl ⟨Nat.le_of_ble_eq_true rfl, Nat.le_of_ble_eq_true rfl⟩ ⟨by (try dsimp only); omega, by (try dsimp only); omega⟩ rfl (Nat.le_of_ble_eq_true rfl) dX10_readWord_52 ?_
      rintro _ _ ⟨rfl, rfl⟩
      refine pw_stk (st' := [.int (iZ (b2i (mBeg dn F)))]) rfl ?_
      refine pw_if_neB (tgt := 67) C dX10_readWord_55 (by decide) (fun h_3006 => ?_) (fun h_3006 => ?_)
      · have hms : mSt (f i) dn F = true := by unfold mSt; rw [if_neg (by omega), if_neg (by omega)]; exact h_3006
        refine pw_aload_n (i := 0) C dX10_readWord_67 rfl rfl (Or.inr ⟨_, rfl⟩) ?_
        refine pw_get (j := 27) C cl_X10 fl_X10_210 (by decide) rfl k_3004 rfl dX10_readWord_68 ?_
        refine pw_stk (st' := [.int (iZ (x 27))]) rfl ?_
        refine pw_stk (st' := [.int (iZ ((F.length : Nat) : Int))]) (by rw [x27]) ?_
        refine pw_bipush C dX10_readWord_71 (by decide) ?_
        refine pw_icmp_ne (tgt := 85) C (by omega) (by omega) dX10_readWord_73 (by decide) (fun h_3007 => ?_) (fun h_3007 => ?_)
        · refine pw_iload C dX10_readWord_85 rfl ?_
          refine pw_if_eqB (tgt := 99) C dX10_readWord_87 (by decide) (fun h_3008 => ?_) (fun h_3008 => ?_)
          · have hltt : ¬ 1000 ≤ wd := fun q => by have := hlt.mpr q; rw [h_3008] at this; cases this
            refine pw_aload_n (i := 0) C dX10_readWord_99 rfl rfl (Or.inr ⟨_, rfl⟩) ?_
            refine pw_iload_n (i := 3) C dX10_readWord_100 rfl rfl ?_
            refine pw_bipush C dX10_readWord_101 (by decide) ?_
            refine pw_icmp_ne (tgt := 110) C (by omega) (by omega) dX10_readWord_103 (by decide) (fun h_3009 => ?_) (fun h_3009 => ?_)
            · refine pw_iconst C dX10_readWord_110 ?_
              have hAx := hA.same (w' := w_3003) (fun k hk => (o_3002 k (by omega))) Ext.rf
              have hXx : MdX (va_up x 20 (i + 1)) t n dn F := MdX.of hX Ext.rf rfl rfl rfl rfl
              refine pw_callV (As := [.int (iZ 1)]) (st := []) C (m_X10_begin g l k_3004 hAx hXx (by omega) (kd := 3) (so1 := 1) rfl (by decide) (by decide) (by have := itF_le F; have := hP.2.1; omega)) my_X10_begin ml_X10_244 (pw_rec.of C k_3004 cl_X10.1) rfl ⟨Nat.le_of_ble_eq_true rfl, Nat.le_of_ble_eq_true rfl⟩ ⟨by (try dsimp only); omega, by (try dsimp only); omega⟩ rfl (Nat.le_of_ble_eq_true rfl) dX10_readWord_111 ?_
              rintro _ wb ⟨rfl, gb, gA, gX, go⟩
              refine pw_stk (st' := []) rfl ?_
              refine pw_goto (tgt := 375) C dX10_readWord_114 (by decide) ?_
              have hfa : (rFa f i (rEnd f ((len : Nat) : Int) i) wd dn F) = 0 := by rw [rFa_g hok1 (fun q => by rw [hnat] at q; cases q), if_neg (by rw [hms]; decide), if_neg (fun q => by have := q.2; omega), if_neg hltt]
              have htk : rTk f i (rEnd f ((len : Nat) : Int) i) dn F = (dn, (3, [], oNil) :: F) := rTk_39 (by omega)
              have R_3010 := hR.same (w' := wb) (fun k hk => (go k (by omega)).trans (o_3002 k (by omega)))
              refine pw_vret C hr dX10_readWord_375 ⟨rfl, t, n, sN, fZ, x 17, (i + 1), x 22, ((F.length : Nat) : Int) + 1, x 29, x 30, x 31, fW, ?_, R_3010, Ext.rf, by omega, fun _ _ _ => rfl, ((go 1017 (by omega)).trans (o_3002 1017 (by omega))).trans a16, u16, fun k hk => (go k (by omega)).trans (o_3002 k (by omega)), ?_⟩
              · have h21z : ((0 : Nat) : Int) = x 21 := h21.symm
                rw [hfa, h21z, ← h7, ← h10]; exact gb
              · rw [hfa, if_pos rfl, htk]; exact ⟨rfl, by rw [hren], gA, MdX.of gX Ext.rf rfl rfl rfl rfl, by simp only [icn, qcn, icF, List.length_nil]; rw [if_neg (by decide), if_pos (by decide)]; omega⟩
            · refine pw_iconst C dX10_readWord_106 ?_
              refine pw_goto (tgt := 111) C dX10_readWord_107 (by decide) ?_
              have hAx := hA.same (w' := w_3003) (fun k hk => (o_3002 k (by omega))) Ext.rf
              have hXx : MdX (va_up x 20 (i + 1)) t n dn F := MdX.of hX Ext.rf rfl rfl rfl rfl
              refine pw_callV (As := [.int (iZ 0)]) (st := []) C (m_X10_begin g l k_3004 hAx hXx (by omega) (kd := 0) (so1 := 0) rfl (by decide) (by decide) (by have := itF_le F; have := hP.2.1; omega)) my_X10_begin ml_X10_244 (pw_rec.of C k_3004 cl_X10.1) rfl ⟨Nat.le_of_ble_eq_true rfl, Nat.le_of_ble_eq_true rfl⟩ ⟨by (try dsimp only); omega, by (try dsimp only); omega⟩ rfl (Nat.le_of_ble_eq_true rfl) dX10_readWord_111 ?_
              rintro _ wb ⟨rfl, gb, gA, gX, go⟩
              refine pw_stk (st' := []) rfl ?_
              refine pw_goto (tgt := 375) C dX10_readWord_114 (by decide) ?_
              have hfa : (rFa f i (rEnd f ((len : Nat) : Int) i) wd dn F) = 0 := by rw [rFa_g hok1 (fun q => by rw [hnat] at q; cases q), if_neg (by rw [hms]; decide), if_neg (fun q => by have := q.2; omega), if_neg hltt]
              have htk : rTk f i (rEnd f ((len : Nat) : Int) i) dn F = (dn, (0, [], oNil) :: F) := rTk_40 (by omega)
              have R_3011 := hR.same (w' := wb) (fun k hk => (go k (by omega)).trans (o_3002 k (by omega)))
              refine pw_vret C hr dX10_readWord_375 ⟨rfl, t, n, sN, fZ, x 17, (i + 1), x 22, ((F.length : Nat) : Int) + 1, x 29, x 30, x 31, fW, ?_, R_3011, Ext.rf, by omega, fun _ _ _ => rfl, ((go 1017 (by omega)).trans (o_3002 1017 (by omega))).trans a16, u16, fun k hk => (go k (by omega)).trans (o_3002 k (by omega)), ?_⟩
              · have h21z : ((0 : Nat) : Int) = x 21 := h21.symm
                rw [hfa, h21z, ← h7, ← h10]; exact gb
              · rw [hfa, if_pos rfl, htk]; exact ⟨rfl, by rw [hren], gA, MdX.of gX Ext.rf rfl rfl rfl rfl, by simp only [icn, qcn, icF, List.length_nil]; rw [if_neg (by decide), if_neg (by decide)]; omega⟩
          · have hltt := hlt.mp h_3008
            refine pw_aload_n (i := 0) C dX10_readWord_90 rfl rfl (Or.inr ⟨_, rfl⟩) ?_
            refine pw_iconst C dX10_readWord_91 ?_
            refine pw_iload_n (i := 2) C dX10_readWord_92 rfl rfl ?_
            refine pw_callV (As := [.int (iZ 5), .int (iZ i)]) (st := []) C (m_X10_bad g l k_3004 (by exact h21)) my_X10_bad ml_X10_240 (pw_rec.of C k_3004 cl_X10.1) rfl ⟨Nat.le_of_ble_eq_true rfl, Nat.le_of_ble_eq_true rfl⟩ ⟨by (try dsimp only); omega, by (try dsimp only); omega⟩ rfl (Nat.le_of_ble_eq_true rfl) dX10_readWord_93 ?_
            rintro _ w_3012 ⟨rfl, e_3013, o_3014⟩
            refine pw_stk (st' := []) rfl ?_
            refine pw_goto (tgt := 375) C dX10_readWord_96 (by decide) ?_
            have R_3015 := hR.same (w' := w_3012) (fun k hk => (o_3014 k (by omega)).trans (o_3002 k (by omega)))
            have hfa : (rFa f i (rEnd f ((len : Nat) : Int) i) wd dn F) = 5 := by rw [rFa_g hok1 (fun q => by rw [hnat] at q; cases q), if_neg (by rw [hms]; decide), if_neg (fun q => by have := q.1; omega), if_pos (by omega)]
            refine pw_vret C hr dX10_readWord_375 ⟨rfl, t, n, sN, fZ, x 17, (i + 1), i, x 27, x 29, x 30, x 31, fW, ?_, R_3015, Ext.rf, ?_, fun _ _ _ => rfl, ((o_3014 1017 (by omega)).trans (o_3002 1017 (by omega))).trans a16, u16, fun k hk => (o_3014 k (by omega)).trans (o_3002 k (by omega)), ?_⟩
            · rw [hfa]; rw [← h7, ← h10]; exact e_3013
            · omega
            · rw [hfa, if_neg (by decide)]; exact ⟨rfl, (hA.same (fun k hk => (o_3014 k (by omega)).trans (o_3002 k (by omega))) Ext.rf).nil, by omega, by omega⟩
        · refine pw_aload_n (i := 0) C dX10_readWord_76 rfl rfl (Or.inr ⟨_, rfl⟩) ?_
          refine pw_iconst C dX10_readWord_77 ?_
          refine pw_iload_n (i := 2) C dX10_readWord_78 rfl rfl ?_
          refine pw_callV (As := [.int (iZ 4), .int (iZ i)]) (st := []) C (m_X10_bad g l k_3004 (by exact h21)) my_X10_bad ml_X10_240 (pw_rec.of C k_3004 cl_X10.1) rfl ⟨Nat.le_of_ble_eq_true rfl, Nat.le_of_ble_eq_true rfl⟩ ⟨by (try dsimp only); omega, by (try dsimp only); omega⟩ rfl (Nat.le_of_ble_eq_true rfl) dX10_readWord_79 ?_
          rintro _ w_3016 ⟨rfl, e_3017, o_3018⟩
          refine pw_stk (st' := []) rfl ?_
          refine pw_goto (tgt := 375) C dX10_readWord_82 (by decide) ?_
          have R_3019 := hR.same (w' := w_3016) (fun k hk => (o_3018 k (by omega)).trans (o_3002 k (by omega)))
          have hfa : (rFa f i (rEnd f ((len : Nat) : Int) i) wd dn F) = 4 := by rw [rFa_g hok1 (fun q => by rw [hnat] at q; cases q), if_neg (by rw [hms]; decide), if_pos ⟨by omega, by omega⟩]
          refine pw_vret C hr dX10_readWord_375 ⟨rfl, t, n, sN, fZ, x 17, (i + 1), i, x 27, x 29, x 30, x 31, fW, ?_, R_3019, Ext.rf, ?_, fun _ _ _ => rfl, ((o_3018 1017 (by omega)).trans (o_3002 1017 (by omega))).trans a16, u16, fun k hk => (o_3018 k (by omega)).trans (o_3002 k (by omega)), ?_⟩
          · rw [hfa]; rw [← h7, ← h10]; exact e_3017
          · omega
          · rw [hfa, if_neg (by decide)]; exact ⟨rfl, (hA.same (fun k hk => (o_3018 k (by omega)).trans (o_3002 k (by omega))) Ext.rf).nil, by omega, by omega⟩
      · have hms : mSt (f i) dn F = false := by unfold mSt; rw [if_neg (by omega), if_neg (by omega)]; exact h_3006
        refine pw_aload_n (i := 0) C dX10_readWord_58 rfl rfl (Or.inr ⟨_, rfl⟩) ?_
        refine pw_iconst C dX10_readWord_59 ?_
        refine pw_iload_n (i := 2) C dX10_readWord_60 rfl rfl ?_
        refine pw_callV (As := [.int (iZ 3), .int (iZ i)]) (st := []) C (m_X10_bad g l k_3004 (by exact h21)) my_X10_bad ml_X10_240 (pw_rec.of C k_3004 cl_X10.1) rfl ⟨Nat.le_of_ble_eq_true rfl, Nat.le_of_ble_eq_true rfl⟩ ⟨by (try dsimp only); omega, by (try dsimp only); omega⟩ rfl (Nat.le_of_ble_eq_true rfl) dX10_readWord_61 ?_
        rintro _ w_3020 ⟨rfl, e_3021, o_3022⟩
        refine pw_stk (st' := []) rfl ?_
        refine pw_goto (tgt := 375) C dX10_readWord_64 (by decide) ?_
        have R_3023 := hR.same (w' := w_3020) (fun k hk => (o_3022 k (by omega)).trans (o_3002 k (by omega)))
        have hfa : (rFa f i (rEnd f ((len : Nat) : Int) i) wd dn F) = 3 := by rw [rFa_g hok1 (fun q => by rw [hnat] at q; cases q), if_pos hms]
        refine pw_vret C hr dX10_readWord_375 ⟨rfl, t, n, sN, fZ, x 17, (i + 1), i, x 27, x 29, x 30, x 31, fW, ?_, R_3023, Ext.rf, ?_, fun _ _ _ => rfl, ((o_3022 1017 (by omega)).trans (o_3002 1017 (by omega))).trans a16, u16, fun k hk => (o_3022 k (by omega)).trans (o_3002 k (by omega)), ?_⟩
        · rw [hfa]; rw [← h7, ← h10]; exact e_3021
        · omega
        · rw [hfa, if_neg (by decide)]; exact ⟨rfl, (hA.same (fun k hk => (o_3022 k (by omega)).trans (o_3002 k (by omega))) Ext.rf).nil, by omega, by omega⟩
    · refine pw_iload_n (i := 3) C dX10_readWord_45 rfl rfl ?_
      refine pw_bipush C dX10_readWord_46 (by decide) ?_
      refine pw_icmp_ne (tgt := 117) C (by omega) (by omega) dX10_readWord_48 (by decide) (fun h_3024 => ?_) (fun h_3024 => ?_)
      · refine pw_iload_n (i := 3) C dX10_readWord_117 rfl rfl ?_
        refine pw_bipush C dX10_readWord_118 (by decide) ?_
        refine pw_icmp_ne (tgt := 175) C (by omega) (by omega) dX10_readWord_120 (by decide) (fun h_3025 => ?_) (fun h_3025 => ?_)
        · refine pw_iload_n (i := 3) C dX10_readWord_175 rfl rfl ?_
          refine pw_bipush C dX10_readWord_176 (by decide) ?_
          refine pw_icmp_ne (tgt := 258) C (by omega) (by omega) dX10_readWord_178 (by decide) (fun h_3026 => ?_) (fun h_3026 => ?_)
          · refine pw_iload_n (i := 3) C dX10_readWord_258 rfl rfl ?_
            have hfx := hfc i
            refine pw_callS (As := [.int (iZ (f i))]) (st := []) C (m_X10_isAtom g l (c0 := (f i)) (by omega)) my_X10_isAtom ml_X10_253 rfl ⟨Nat.le_of_ble_eq_true rfl, Nat.le_of_ble_eq_true rfl⟩ ⟨by (try dsimp only); omega, by (try dsimp only); omega⟩ rfl (Nat.le_of_ble_eq_true rfl) dX10_readWord_259 ?_
            rintro _ _ ⟨rfl, rfl⟩
            refine pw_stk (st' := [.int (iZ (b2i (atL (f i))))]) rfl ?_
            refine pw_if_neB (tgt := 274) C dX10_readWord_262 (by decide) (fun h_3027 => ?_) (fun h_3027 => ?_)
            · have hal := h_3027
              have hatw : ∀ k, i ≤ k → k < (rEnd f ((len : Nat) : Int) i) → atL (f k) = true := fun k h1 h2 => rWe_at _ i k h1 (by have h3 := h2; unfold rEnd at h3; rw [if_pos hal] at h3; exact h3)
              have tail : ∀ w1 : pw_W, w1 1000 = (b, some (mdE B (va_up x 20 (rEnd f ((len : Nat) : Int) i)))) → (∀ k, k ≠ 1000 → w1 k = w k) → pw_G g p l e { frames := 6, cells := 0, slots := 0, locals := 134 } s m args below meth c 6 (pw_Q g below (fun r w' => rWP g w w' b B x t n sN fZ f len i wd dn F r) args s { frames := 6, cells := 0, slots := 0, locals := 134 }) 0 0 313 [(0, .ref b), (1, .int (iZ (((wd : Nat) : Int) + 1))), (2, .int (iZ i)), (3, .int (iZ (f i))), (4, .int (iZ (b2i lt)))] [] w1 := by
                intro w1 y0 hf1
                refine pw_aload_n (i := 0) C dX10_readWord_313 rfl rfl (Or.inr ⟨_, rfl⟩) ?_
                refine pw_iload_n (i := 2) C dX10_readWord_314 rfl rfl ?_
                refine pw_aload_n (i := 0) C dX10_readWord_315 rfl rfl (Or.inr ⟨_, rfl⟩) ?_
                refine pw_get (j := 20) C cl_X10 fl_X10_201 (by decide) rfl y0 rfl dX10_readWord_316 ?_
                refine pw_stk (st' := [.int (iZ (rEnd f ((len : Nat) : Int) i)), .int (iZ i), .ref b]) rfl ?_
                have R_1001 := hR.same (w' := w1) (fun k hk => (hf1 k (by omega)))
                have c_1002 := (hf1 1013 (by omega)).trans a12
                have h17 := ((hf1 1017 (by omega))).trans a16
                refine pw_callV (As := [.int (iZ i), .int (iZ (rEnd f ((len : Nat) : Int) i))]) (st := []) C (m_X10_atom g l y0 R_1001 h7 h10 hK c_1002 hfc h17 u16 (i := i) (j := (rEnd f ((len : Nat) : Int) i)) (by omega) (by omega) hatw (by omega) (by omega)) my_X10_atom ml_X10_256 (pw_rec.of C y0 cl_X10.1) rfl ⟨Nat.le_of_ble_eq_true rfl, Nat.le_of_ble_eq_true rfl⟩ ⟨by (try dsimp only); omega, by (try dsimp only); omega⟩ rfl (Nat.le_of_ble_eq_true rfl) dX10_readWord_319 ?_
                rintro _ w6 ⟨z6, t6, n6, s6, Z6, q9, W9, rfl, e6, R6, x6, hn6, hs6, hZ6, hz6, y17, u17, ho6⟩
                have x61 := x6.1
                have R6n := R6.n
                have hK6 := RK.ext hK x6
                have hz6r : -1 ≤ z6 ∧ z6 < 40000 ∧ (z6 = -1 ↔ rAt f i (rEnd f ((len : Nat) : Int) i) = none) := by
                  cases hra : rAt f i (rEnd f ((len : Nat) : Int) i) with
                  | none => rw [hra] at hz6; rw [show z6 = -1 from hz6]; exact ⟨by omega, by omega, ⟨fun _ => rfl, fun _ => rfl⟩⟩
                  | some Y => rw [hra] at hz6; have := Vl.rg R6 hz6; exact ⟨by omega, by omega, ⟨fun e => by omega, fun e => by cases e⟩⟩
                refine pw_stk (st' := [.int (iZ z6)]) rfl ?_
                refine pw_istore (lv' := [(0, .ref b), (1, .int (iZ (((wd : Nat) : Int) + 1))), (2, .int (iZ i)), (3, .int (iZ (f i))), (4, .int (iZ (b2i lt))), (5, .int (iZ z6))]) C dX10_readWord_322 (by decide) rfl ?_
                refine pw_iload C dX10_readWord_324 rfl ?_
                refine pw_iconst C dX10_readWord_326 ?_
                refine pw_icmp_ne (tgt := 339) C (by omega) (by omega) dX10_readWord_327 (by decide) (fun h_1003 => ?_) (fun h_1003 => ?_)
                · have hsome : (rAt f i (rEnd f ((len : Nat) : Int) i)).isSome = true := isSome_of (fun hra => absurd (hz6r.2.2.mpr hra) (by omega))
                  refine pw_aload_n (i := 0) C dX10_readWord_339 rfl rfl (Or.inr ⟨_, rfl⟩) ?_
                  have hAx := hA.same (w' := w6) (fun k hk => (ho6 k (by omega)).trans (hf1 k (by omega))) x6
                  have hXx : MdX (va_up (va_up (va_up (va_up x 20 (rEnd f ((len : Nat) : Int) i)) 17 q9) 7 n6) 10 ((s6 : Nat) : Int)) t6 n6 dn F := MdX.of hX x6 rfl rfl rfl rfl
                  refine pw_callV (As := []) (st := []) C (m_X10_mayBegin g l e6 hAx hXx hl40 (fun q hq => (hP.2.2.2.1 q hq).1)) my_X10_mayBegin ml_X10_236 (pw_rec.of C e6 cl_X10.1) rfl ⟨Nat.le_of_ble_eq_true rfl, Nat.le_of_ble_eq_true rfl⟩ ⟨by (try dsimp only); omega, by (try dsimp only); omega⟩ rfl (Nat.le_of_ble_eq_true rfl) dX10_readWord_340 ?_
                  rintro _ _ ⟨rfl, rfl⟩
                  refine pw_stk (st' := [.int (iZ (b2i (mBeg dn F)))]) rfl ?_
                  refine pw_if_neB (tgt := 355) C dX10_readWord_343 (by decide) (fun h_1004 => ?_) (fun h_1004 => ?_)
                  · have hbg := h_1004
                    have hms : mSt (f i) dn F = true := by unfold mSt; rw [if_neg (by omega), if_neg (by omega)]; exact h_1004
                    refine pw_iload C dX10_readWord_355 rfl ?_
                    refine pw_if_eqB (tgt := 369) C dX10_readWord_357 (by decide) (fun h_1005 => ?_) (fun h_1005 => ?_)
                    · have hltt : ¬ 1000 ≤ wd := fun q => by have := hlt.mpr q; rw [h_1005] at this; cases this
                      refine pw_aload_n (i := 0) C dX10_readWord_369 rfl rfl (Or.inr ⟨_, rfl⟩) ?_
                      refine pw_iload C dX10_readWord_370 rfl ?_
                      obtain ⟨Y, hY⟩ : ∃ Y, rAt f i (rEnd f ((len : Nat) : Int) i) = some Y := by
                        cases hra : rAt f i (rEnd f ((len : Nat) : Int) i) with
                        | none => exact absurd (hz6r.2.2.mpr hra) (by omega)
                        | some Y => exact ⟨Y, rfl⟩
                      rw [hY] at hz6
                      have hdn := hP.dn hbg
                      have hk2 := hP.ne2 hbg
                      have hA6 := hA.same (w' := w6) (fun k hk => (ho6 k (by omega)).trans (hf1 k (by omega))) x6
                      have hX6 : MdX (va_up (va_up (va_up (va_up x 20 (rEnd f ((len : Nat) : Int) i)) 17 q9) 7 n6) 10 ((s6 : Nat) : Int)) t6 n6 none F := by rw [← hdn]; exact MdX.of hX x6 rfl rfl rfl rfl
                      refine pw_callV (As := [.int (iZ z6)]) (st := []) C (m_X10_deliver g l e6 R6 rfl rfl hK6 hA6 hX6 hl40 (hP.FKs hk2) (by have := hP.2.1; omega) hz6 (by omega)) my_X10_deliver ml_X10_223 (pw_rec.of C e6 cl_X10.1) rfl ⟨Nat.le_of_ble_eq_true rfl, Nat.le_of_ble_eq_true rfl⟩ ⟨by (try dsimp only); omega, by (try dsimp only); omega⟩ rfl (Nat.le_of_ble_eq_true rfl) dX10_readWord_372 ?_
                      rintro _ w9 ⟨rfl, t9, n9, s9, Z9, o9, i9, h9, d9, g0, g1, g2, g3, g4, g5, g6, g7, g8⟩
                      have hic2 := rDel_icn F Y hk2
                      refine pw_stk (st' := []) rfl ?_
                      have hfa : (rFa f i (rEnd f ((len : Nat) : Int) i) wd dn F) = 0 := by rw [rFa_g (Or.inr (Or.inr (Or.inr (Or.inr hal)))) (fun _ => hsome), if_neg (by rw [hms]; decide), if_neg (fun q => by have := q.1; omega), if_neg hltt]
                      have htk : rTk f i (rEnd f ((len : Nat) : Int) i) dn F = (rDel Y F) := rTk_at (by omega) (by omega) (by omega) (by omega) hY
                      refine pw_vret C hr dX10_readWord_375 ⟨rfl, t9, n9, s9, Z9, q9, (rEnd f ((len : Nat) : Int) i), x 22, o9, i9, h9, d9, W9, ?_, g1, (x6.tr g2), ?_, fun j j0 j1 => (g5 j j0 (by omega)).trans (hZ6 j j0 j1), ((g8 1017 (by omega))).trans y17, u17, fun k hk => (g8 k (by omega)).trans ((ho6 k (by omega)).trans (hf1 k (by omega))), ?_⟩
                      · rw [hfa]; have h21' : ((0 : Nat) : Int) = x 21 := h21.symm; rw [h21']; exact g0
                      · rw [if_pos hal]; omega
                      · rw [hfa, if_pos rfl, htk]; exact ⟨rfl, by rfl, g6, MdX.of g7 Ext.rf rfl rfl rfl rfl, by omega⟩
                    · have hltt := hlt.mp h_1005
                      refine pw_aload_n (i := 0) C dX10_readWord_360 rfl rfl (Or.inr ⟨_, rfl⟩) ?_
                      refine pw_iconst C dX10_readWord_361 ?_
                      refine pw_iload_n (i := 2) C dX10_readWord_362 rfl rfl ?_
                      refine pw_callV (As := [.int (iZ 5), .int (iZ i)]) (st := []) C (m_X10_bad g l e6 (by exact h21)) my_X10_bad ml_X10_240 (pw_rec.of C e6 cl_X10.1) rfl ⟨Nat.le_of_ble_eq_true rfl, Nat.le_of_ble_eq_true rfl⟩ ⟨by (try dsimp only); omega, by (try dsimp only); omega⟩ rfl (Nat.le_of_ble_eq_true rfl) dX10_readWord_363 ?_
                      rintro _ w_1006 ⟨rfl, e_1007, o_1008⟩
                      refine pw_stk (st' := []) rfl ?_
                      refine pw_goto (tgt := 375) C dX10_readWord_366 (by decide) ?_
                      have R_1009 := R6.same (w' := w_1006) (fun k hk => (o_1008 k (by omega)))
                      have hfa : (rFa f i (rEnd f ((len : Nat) : Int) i) wd dn F) = 5 := by rw [rFa_g (Or.inr (Or.inr (Or.inr (Or.inr hal)))) (fun _ => hsome), if_neg (by rw [hms]; decide), if_neg (fun q => by have := q.1; omega), if_pos (by omega)]
                      refine pw_vret C hr dX10_readWord_375 ⟨rfl, t6, n6, s6, Z6, q9, (rEnd f ((len : Nat) : Int) i), i, x 27, x 29, x 30, x 31, W9, ?_, R_1009, x6, ?_, fun j j0 j1 => (hZ6 j j0 j1), ((o_1008 1017 (by omega))).trans y17, u17, fun k hk => (o_1008 k (by omega)).trans ((ho6 k (by omega)).trans (hf1 k (by omega))), ?_⟩
                      · rw [hfa]; exact e_1007
                      · rw [if_pos hal]; omega
                      · rw [hfa, if_neg (by decide)]; exact ⟨rfl, (hA.same (fun k hk => (o_1008 k (by omega)).trans ((ho6 k (by omega)).trans (hf1 k (by omega)))) x6).nil, by omega, by omega⟩
                  · have hms : mSt (f i) dn F = false := by unfold mSt; rw [if_neg (by omega), if_neg (by omega)]; exact h_1004
                    refine pw_aload_n (i := 0) C dX10_readWord_346 rfl rfl (Or.inr ⟨_, rfl⟩) ?_
                    refine pw_iconst C dX10_readWord_347 ?_
                    refine pw_iload_n (i := 2) C dX10_readWord_348 rfl rfl ?_
                    refine pw_callV (As := [.int (iZ 3), .int (iZ i)]) (st := []) C (m_X10_bad g l e6 (by exact h21)) my_X10_bad ml_X10_240 (pw_rec.of C e6 cl_X10.1) rfl ⟨Nat.le_of_ble_eq_true rfl, Nat.le_of_ble_eq_true rfl⟩ ⟨by (try dsimp only); omega, by (try dsimp only); omega⟩ rfl (Nat.le_of_ble_eq_true rfl) dX10_readWord_349 ?_
                    rintro _ w_1010 ⟨rfl, e_1011, o_1012⟩
                    refine pw_stk (st' := []) rfl ?_
                    refine pw_goto (tgt := 375) C dX10_readWord_352 (by decide) ?_
                    have R_1013 := R6.same (w' := w_1010) (fun k hk => (o_1012 k (by omega)))
                    have hfa : (rFa f i (rEnd f ((len : Nat) : Int) i) wd dn F) = 3 := by rw [rFa_g (Or.inr (Or.inr (Or.inr (Or.inr hal)))) (fun _ => hsome), if_pos hms]
                    refine pw_vret C hr dX10_readWord_375 ⟨rfl, t6, n6, s6, Z6, q9, (rEnd f ((len : Nat) : Int) i), i, x 27, x 29, x 30, x 31, W9, ?_, R_1013, x6, ?_, fun j j0 j1 => (hZ6 j j0 j1), ((o_1012 1017 (by omega))).trans y17, u17, fun k hk => (o_1012 k (by omega)).trans ((ho6 k (by omega)).trans (hf1 k (by omega))), ?_⟩
                    · rw [hfa]; exact e_1011
                    · rw [if_pos hal]; omega
                    · rw [hfa, if_neg (by decide)]; exact ⟨rfl, (hA.same (fun k hk => (o_1012 k (by omega)).trans ((ho6 k (by omega)).trans (hf1 k (by omega)))) x6).nil, by omega, by omega⟩
                · have hno : rAt f i (rEnd f ((len : Nat) : Int) i) = none := hz6r.2.2.mp (by omega)
                  refine pw_aload_n (i := 0) C dX10_readWord_330 rfl rfl (Or.inr ⟨_, rfl⟩) ?_
                  refine pw_iconst C dX10_readWord_331 ?_
                  refine pw_iload_n (i := 2) C dX10_readWord_332 rfl rfl ?_
                  refine pw_callV (As := [.int (iZ 2), .int (iZ i)]) (st := []) C (m_X10_bad g l e6 (by exact h21)) my_X10_bad ml_X10_240 (pw_rec.of C e6 cl_X10.1) rfl ⟨Nat.le_of_ble_eq_true rfl, Nat.le_of_ble_eq_true rfl⟩ ⟨by (try dsimp only); omega, by (try dsimp only); omega⟩ rfl (Nat.le_of_ble_eq_true rfl) dX10_readWord_333 ?_
                  rintro _ w_1014 ⟨rfl, e_1015, o_1016⟩
                  refine pw_stk (st' := []) rfl ?_
                  refine pw_goto (tgt := 375) C dX10_readWord_336 (by decide) ?_
                  have R_1017 := R6.same (w' := w_1014) (fun k hk => (o_1016 k (by omega)))
                  have hfa : (rFa f i (rEnd f ((len : Nat) : Int) i) wd dn F) = 2 := by rw [rFa_2 hal (by rw [hno]; rfl)]
                  refine pw_vret C hr dX10_readWord_375 ⟨rfl, t6, n6, s6, Z6, q9, (rEnd f ((len : Nat) : Int) i), i, x 27, x 29, x 30, x 31, W9, ?_, R_1017, x6, ?_, fun j j0 j1 => (hZ6 j j0 j1), ((o_1016 1017 (by omega))).trans y17, u17, fun k hk => (o_1016 k (by omega)).trans ((ho6 k (by omega)).trans (hf1 k (by omega))), ?_⟩
                  · rw [hfa]; exact e_1015
                  · rw [if_pos hal]; omega
                  · rw [hfa, if_neg (by decide)]; exact ⟨rfl, (hA.same (fun k hk => (o_1016 k (by omega)).trans ((ho6 k (by omega)).trans (hf1 k (by omega)))) x6).nil, by omega, by omega⟩
              have hloop : ∀ (kk : Nat) (w1 : pw_W) (a : Int), a + kk = ((len : Nat) : Int) ∧ i < a → rWe f kk a = (rEnd f ((len : Nat) : Int) i) → w1 1000 = (b, some (mdE B (va_up x 20 a))) → (∀ k, k ≠ 1000 → w1 k = w k) → pw_G g p l e { frames := 6, cells := 0, slots := 0, locals := 134 } s m args below meth c 6 (pw_Q g below (fun r w' => rWP g w w' b B x t n sN fZ f len i wd dn F r) args s { frames := 6, cells := 0, slots := 0, locals := 134 }) 0 0 274 [(0, .ref b), (1, .int (iZ (((wd : Nat) : Int) + 1))), (2, .int (iZ i)), (3, .int (iZ (f i))), (4, .int (iZ (b2i lt)))] [] w1 := by
                intro kk
                induction kk with
                | zero =>
                  intro w1 a hk hq y0 hf1
                  refine pw_aload_n (i := 0) C dX10_readWord_274 rfl rfl (Or.inr ⟨_, rfl⟩) ?_
                  refine pw_get (j := 20) C cl_X10 fl_X10_201 (by decide) rfl y0 rfl dX10_readWord_275 ?_
                  refine pw_stk (st' := [.int (iZ a)]) rfl ?_
                  refine pw_aload_n (i := 0) C dX10_readWord_278 rfl rfl (Or.inr ⟨_, rfl⟩) ?_
                  refine pw_get (j := 13) C cl_X10 fl_X10_204 (by decide) rfl y0 rfl dX10_readWord_279 ?_
                  refine pw_stk (st' := [.int (iZ (x 13)), .int (iZ a)]) rfl ?_
                  refine pw_stk (st' := [.int (iZ ((len : Nat) : Int)), .int (iZ a)]) (by rw [h13]) ?_
                  refine pw_icmp_ge (tgt := 313) C (by omega) (by omega) dX10_readWord_282 (by decide) (fun h_2001 => ?_) (fun h_2001 => ?_)
                  · exact tail w1 (by rw [show (rEnd f ((len : Nat) : Int) i) = a from by rw [← hq, rWe]]; exact y0) hf1
                  · exfalso; omega
                | succ kk ihl =>
                  intro w1 a hk hq y0 hf1
                  refine pw_aload_n (i := 0) C dX10_readWord_274 rfl rfl (Or.inr ⟨_, rfl⟩) ?_
                  refine pw_get (j := 20) C cl_X10 fl_X10_201 (by decide) rfl y0 rfl dX10_readWord_275 ?_
                  refine pw_stk (st' := [.int (iZ a)]) rfl ?_
                  refine pw_aload_n (i := 0) C dX10_readWord_278 rfl rfl (Or.inr ⟨_, rfl⟩) ?_
                  refine pw_get (j := 13) C cl_X10 fl_X10_204 (by decide) rfl y0 rfl dX10_readWord_279 ?_
                  refine pw_stk (st' := [.int (iZ (x 13)), .int (iZ a)]) rfl ?_
                  refine pw_stk (st' := [.int (iZ ((len : Nat) : Int)), .int (iZ a)]) (by rw [h13]) ?_
                  refine pw_icmp_ge (tgt := 313) C (by omega) (by omega) dX10_readWord_282 (by decide) (fun h_2101 => ?_) (fun h_2101 => ?_)
                  · exfalso; omega
                  · refine pw_aload_n (i := 0) C dX10_readWord_285 rfl rfl (Or.inr ⟨_, rfl⟩) ?_
                    refine pw_get (j := 12) C cl_X10 fl_X10_43 (by decide) rfl y0 rfl dX10_readWord_286 ?_
                    refine pw_stk (st' := [.ref (B 12)]) rfl ?_
                    refine pw_aload_n (i := 0) C dX10_readWord_289 rfl rfl (Or.inr ⟨_, rfl⟩) ?_
                    refine pw_get (j := 20) C cl_X10 fl_X10_201 (by decide) rfl y0 rfl dX10_readWord_290 ?_
                    refine pw_stk (st' := [.int (iZ a), .ref (B 12)]) rfl ?_
                    have c_2102 := (hf1 1013 (by omega)).trans a12
                    have g_2103 := hfi a
                    refine pw_iald C c_2102 ⟨by omega, by omega, by omega⟩ dX10_readWord_293 ?_
                    have hfx := hfc a
                    refine pw_callS (As := [.int (iZ (f a))]) (st := []) C (m_X10_isAtom g l (c0 := f a) (by omega)) my_X10_isAtom ml_X10_253 rfl ⟨Nat.le_of_ble_eq_true rfl, Nat.le_of_ble_eq_true rfl⟩ ⟨by (try dsimp only); omega, by (try dsimp only); omega⟩ rfl (Nat.le_of_ble_eq_true rfl) dX10_readWord_294 ?_
                    rintro _ _ ⟨rfl, rfl⟩
                    refine pw_stk (st' := [.int (iZ (b2i (atL (f a))))]) rfl ?_
                    refine pw_if_eqB (tgt := 313) C dX10_readWord_297 (by decide) (fun h_2104 => ?_) (fun h_2104 => ?_)
                    · exact tail w1 (by rw [show (rEnd f ((len : Nat) : Int) i) = a from by rw [← hq, rWe, if_neg (by rw [h_2104]; decide)]]; exact y0) hf1
                    · refine pw_aload_n (i := 0) C dX10_readWord_300 rfl rfl (Or.inr ⟨_, rfl⟩) ?_
                      refine pw_dup C dX10_readWord_301 rfl ?_
                      refine pw_get (j := 20) C cl_X10 fl_X10_201 (by decide) rfl y0 rfl dX10_readWord_302 ?_
                      refine pw_stk (st' := [.int (iZ a), .ref b]) rfl ?_
                      refine pw_iconst C dX10_readWord_305 ?_
                      refine pw_iadd C dX10_readWord_306 ?_
                      refine pw_put (j := 20) C cl_X10 fl_X10_201 (by decide) rfl rfl rfl rfl rfl y0 (Nat.le_of_ble_eq_true rfl) dX10_readWord_307 (fun w_2107 k_2105 o_2106 => ?_)
                      have k_2108 : w_2107 1000 = (b, some (mdE B (va_up (va_up x 20 a) 20 (a + 1)))) := k_2105
                      refine pw_goto (tgt := 274) C dX10_readWord_310 (by decide) ?_
                      exact ihl w_2107 (a + 1) (by omega) (by rw [← hq, rWe, if_pos h_2104]) k_2108 (fun k hk => (o_2106 k hk).trans (hf1 k hk))
              exact hloop (((len : Nat) : Int) - i - 1).toNat w_3003 (i + 1) (by omega) (by unfold rEnd; rw [if_pos hal, show (((len : Nat) : Int) - i).toNat = (((len : Nat) : Int) - i - 1).toNat + 1 by omega, rWe, if_pos hal]) k_3004 (fun k hk => (o_3002 k hk))
            · have hna := h_3027
              refine pw_aload_n (i := 0) C dX10_readWord_265 rfl rfl (Or.inr ⟨_, rfl⟩) ?_
              refine pw_iconst C dX10_readWord_266 ?_
              refine pw_iload_n (i := 2) C dX10_readWord_267 rfl rfl ?_
              refine pw_callV (As := [.int (iZ 1), .int (iZ i)]) (st := []) C (m_X10_bad g l k_3004 (by exact h21)) my_X10_bad ml_X10_240 (pw_rec.of C k_3004 cl_X10.1) rfl ⟨Nat.le_of_ble_eq_true rfl, Nat.le_of_ble_eq_true rfl⟩ ⟨by (try dsimp only); omega, by (try dsimp only); omega⟩ rfl (Nat.le_of_ble_eq_true rfl) dX10_readWord_268 ?_
              rintro _ w_3028 ⟨rfl, e_3029, o_3030⟩
              refine pw_stk (st' := []) rfl ?_
              refine pw_goto (tgt := 375) C dX10_readWord_271 (by decide) ?_
              have R_3031 := hR.same (w' := w_3028) (fun k hk => (o_3030 k (by omega)).trans (o_3002 k (by omega)))
              have hfa : (rFa f i (rEnd f ((len : Nat) : Int) i) wd dn F) = 1 := by rw [rFa_1 (by omega) (by omega) (by omega) (by omega) hna]
              refine pw_vret C hr dX10_readWord_375 ⟨rfl, t, n, sN, fZ, x 17, (i + 1), i, x 27, x 29, x 30, x 31, fW, ?_, R_3031, Ext.rf, ?_, fun _ _ _ => rfl, ((o_3030 1017 (by omega)).trans (o_3002 1017 (by omega))).trans a16, u16, fun k hk => (o_3030 k (by omega)).trans (o_3002 k (by omega)), ?_⟩
              · rw [hfa]; rw [← h7, ← h10]; exact e_3029
              · omega
              · rw [hfa, if_neg (by decide)]; exact ⟨rfl, (hA.same (fun k hk => (o_3030 k (by omega)).trans (o_3002 k (by omega))) Ext.rf).nil, by omega, by omega⟩
          · have hnat : atL (f i) = false := by rw [show f i = 46 by omega]; exact atL_ps.2.2.2
            have hren : (rEnd f ((len : Nat) : Int) i) = i + 1 := by unfold rEnd; rw [if_neg (by rw [hnat]; decide)]
            refine pw_aload_n (i := 0) C dX10_readWord_181 rfl rfl (Or.inr ⟨_, rfl⟩) ?_
            have hAx := hA.same (w' := w_3003) (fun k hk => (o_3002 k (by omega))) Ext.rf
            have hXx : MdX (va_up x 20 (i + 1)) t n dn F := MdX.of hX Ext.rf rfl rfl rfl rfl
            refine pw_callV (As := []) (st := []) C (m_X10_isInList g l k_3004 hAx hXx hl40) my_X10_isInList ml_X10_247 (pw_rec.of C k_3004 cl_X10.1) rfl ⟨Nat.le_of_ble_eq_true rfl, Nat.le_of_ble_eq_true rfl⟩ ⟨by (try dsimp only); omega, by (try dsimp only); omega⟩ rfl (Nat.le_of_ble_eq_true rfl) dX10_readWord_182 ?_
            rintro _ _ ⟨rfl, rfl⟩
            refine pw_stk (st' := [.int (iZ (b2i (isLs F)))]) rfl ?_
            refine pw_if_eqB (tgt := 220) C dX10_readWord_185 (by decide) (fun h_3032 => ?_) (fun h_3032 => ?_)
            · have hms : mSt (f i) dn F = false := by unfold mSt; rw [if_neg (by omega), if_pos (by omega)]; exact (mCls_no h_3032 (fun q hq => (hP.2.2.2.1 q hq).1)).2
              refine pw_aload_n (i := 0) C dX10_readWord_220 rfl rfl (Or.inr ⟨_, rfl⟩) ?_
              refine pw_iconst C dX10_readWord_221 ?_
              refine pw_iload_n (i := 2) C dX10_readWord_222 rfl rfl ?_
              refine pw_callV (As := [.int (iZ 3), .int (iZ i)]) (st := []) C (m_X10_bad g l k_3004 (by exact h21)) my_X10_bad ml_X10_240 (pw_rec.of C k_3004 cl_X10.1) rfl ⟨Nat.le_of_ble_eq_true rfl, Nat.le_of_ble_eq_true rfl⟩ ⟨by (try dsimp only); omega, by (try dsimp only); omega⟩ rfl (Nat.le_of_ble_eq_true rfl) dX10_readWord_223 ?_
              rintro _ w_3033 ⟨rfl, e_3034, o_3035⟩
              refine pw_stk (st' := []) rfl ?_
              refine pw_goto (tgt := 375) C dX10_readWord_226 (by decide) ?_
              have R_3036 := hR.same (w' := w_3033) (fun k hk => (o_3035 k (by omega)).trans (o_3002 k (by omega)))
              have hfa : (rFa f i (rEnd f ((len : Nat) : Int) i) wd dn F) = 3 := by rw [rFa_g (Or.inr (Or.inr (Or.inr (Or.inl (by omega))))) (fun q => by rw [hnat] at q; cases q), if_pos hms]
              refine pw_vret C hr dX10_readWord_375 ⟨rfl, t, n, sN, fZ, x 17, (i + 1), i, x 27, x 29, x 30, x 31, fW, ?_, R_3036, Ext.rf, ?_, fun _ _ _ => rfl, ((o_3035 1017 (by omega)).trans (o_3002 1017 (by omega))).trans a16, u16, fun k hk => (o_3035 k (by omega)).trans (o_3002 k (by omega)), ?_⟩
              · rw [hfa]; rw [← h7, ← h10]; exact e_3034
              · omega
              · rw [hfa, if_neg (by decide)]; exact ⟨rfl, (hA.same (fun k hk => (o_3035 k (by omega)).trans (o_3002 k (by omega))) Ext.rf).nil, by omega, by omega⟩
            · have hil := h_3032
              obtain ⟨q, F2, hFe⟩ := ne_cons (F := F) (isLs_pos hil)
              have hFl2 : F.length = F2.length + 1 := by rw [hFe]; rfl
              have hq3 : q.1 ≠ 3 := by have := hil; rw [hFe] at this; exact of_decide_eq_true this
              have hFrq := hFr
              rw [hFe] at hFrq
              have hq2 := hFrq.2.1 hq3
              have hqfr := hFrq.2.2.1
              rw [show ((F2.length : Nat) : Int) = ((F.length : Nat) : Int) - 1 by omega] at hq2 hqfr
              have hqle := (hP.2.2.2.1 q (by rw [hFe]; exact List.mem_cons_self)).1
              have hqin : (itF F).length = (itF F2).length + q.2.1.length := by rw [hFe]; simp [itF]
              refine pw_aload_n (i := 0) C dX10_readWord_188 rfl rfl (Or.inr ⟨_, rfl⟩) ?_
              refine pw_get (j := 25) C cl_X10 fl_X10_65 (by decide) rfl k_3004 rfl dX10_readWord_189 ?_
              refine pw_stk (st' := [.ref (B 25)]) rfl ?_
              refine pw_aload_n (i := 0) C dX10_readWord_192 rfl rfl (Or.inr ⟨_, rfl⟩) ?_
              refine pw_get (j := 27) C cl_X10 fl_X10_210 (by decide) rfl k_3004 rfl dX10_readWord_193 ?_
              refine pw_stk (st' := [.int (iZ (x 27)), .ref (B 25)]) rfl ?_
              refine pw_stk (st' := [.int (iZ ((F.length : Nat) : Int)), .ref (B 25)]) (by rw [x27]) ?_
              refine pw_iconst C dX10_readWord_196 ?_
              refine pw_isub C dX10_readWord_197 ?_
              have c_3037 := (o_3002 1026 (by omega)).trans b3
              have g_3038 := v3 (((F.length : Nat) : Int) - 1)
              refine pw_iald C c_3037 ⟨by omega, by omega, by omega⟩ dX10_readWord_198 ?_
              refine pw_if_ne (tgt := 220) C (by omega) dX10_readWord_199 (by decide) (fun h_3039 => ?_) (fun h_3039 => ?_)
              · have hms : mSt (f i) dn F = false := by unfold mSt; rw [if_neg (by omega), if_pos (by omega), hFe]; exact decide_eq_false (fun e => by omega)
                refine pw_aload_n (i := 0) C dX10_readWord_220 rfl rfl (Or.inr ⟨_, rfl⟩) ?_
                refine pw_iconst C dX10_readWord_221 ?_
                refine pw_iload_n (i := 2) C dX10_readWord_222 rfl rfl ?_
                refine pw_callV (As := [.int (iZ 3), .int (iZ i)]) (st := []) C (m_X10_bad g l k_3004 (by exact h21)) my_X10_bad ml_X10_240 (pw_rec.of C k_3004 cl_X10.1) rfl ⟨Nat.le_of_ble_eq_true rfl, Nat.le_of_ble_eq_true rfl⟩ ⟨by (try dsimp only); omega, by (try dsimp only); omega⟩ rfl (Nat.le_of_ble_eq_true rfl) dX10_readWord_223 ?_
                rintro _ w_3040 ⟨rfl, e_3041, o_3042⟩
                refine pw_stk (st' := []) rfl ?_
                refine pw_goto (tgt := 375) C dX10_readWord_226 (by decide) ?_
                have R_3043 := hR.same (w' := w_3040) (fun k hk => (o_3042 k (by omega)).trans (o_3002 k (by omega)))
                have hfa : (rFa f i (rEnd f ((len : Nat) : Int) i) wd dn F) = 3 := by rw [rFa_g (Or.inr (Or.inr (Or.inr (Or.inl (by omega))))) (fun q => by rw [hnat] at q; cases q), if_pos hms]
                refine pw_vret C hr dX10_readWord_375 ⟨rfl, t, n, sN, fZ, x 17, (i + 1), i, x 27, x 29, x 30, x 31, fW, ?_, R_3043, Ext.rf, ?_, fun _ _ _ => rfl, ((o_3042 1017 (by omega)).trans (o_3002 1017 (by omega))).trans a16, u16, fun k hk => (o_3042 k (by omega)).trans (o_3002 k (by omega)), ?_⟩
                · rw [hfa]; rw [← h7, ← h10]; exact e_3041
                · omega
                · rw [hfa, if_neg (by decide)]; exact ⟨rfl, (hA.same (fun k hk => (o_3042 k (by omega)).trans (o_3002 k (by omega))) Ext.rf).nil, by omega, by omega⟩
              · refine pw_aload_n (i := 0) C dX10_readWord_202 rfl rfl (Or.inr ⟨_, rfl⟩) ?_
                refine pw_get (j := 29) C cl_X10 fl_X10_217 (by decide) rfl k_3004 rfl dX10_readWord_203 ?_
                refine pw_stk (st' := [.int (iZ (x 29))]) rfl ?_
                refine pw_stk (st' := [.int (iZ (((itF F).length : Nat) : Int))]) (by rw [x29]) ?_
                refine pw_aload_n (i := 0) C dX10_readWord_206 rfl rfl (Or.inr ⟨_, rfl⟩) ?_
                refine pw_get (j := 24) C cl_X10 fl_X10_62 (by decide) rfl k_3004 rfl dX10_readWord_207 ?_
                refine pw_stk (st' := [.ref (B 24), .int (iZ (((itF F).length : Nat) : Int))]) rfl ?_
                refine pw_aload_n (i := 0) C dX10_readWord_210 rfl rfl (Or.inr ⟨_, rfl⟩) ?_
                refine pw_get (j := 27) C cl_X10 fl_X10_210 (by decide) rfl k_3004 rfl dX10_readWord_211 ?_
                refine pw_stk (st' := [.int (iZ (x 27)), .ref (B 24), .int (iZ (((itF F).length : Nat) : Int))]) rfl ?_
                refine pw_stk (st' := [.int (iZ ((F.length : Nat) : Int)), .ref (B 24), .int (iZ (((itF F).length : Nat) : Int))]) (by rw [x27]) ?_
                refine pw_iconst C dX10_readWord_214 ?_
                refine pw_isub C dX10_readWord_215 ?_
                have c_3044 := (o_3002 1025 (by omega)).trans b2
                have g_3045 := v2 (((F.length : Nat) : Int) - 1)
                refine pw_iald C c_3044 ⟨by omega, by omega, by omega⟩ dX10_readWord_216 ?_
                refine pw_icmp_ne (tgt := 229) C (by omega) (by omega) dX10_readWord_217 (by decide) (fun h_3046 => ?_) (fun h_3046 => ?_)
                · have hqk : q.1 = 0 := by omega
                  have hms : mSt (f i) dn F = true := by unfold mSt; rw [if_neg (by omega), if_pos (by omega), hFe]; exact decide_eq_true ⟨hqk, fun e => by rw [e] at hqin; simp at hqin; omega⟩
                  refine pw_iload C dX10_readWord_229 rfl ?_
                  refine pw_if_eqB (tgt := 243) C dX10_readWord_231 (by decide) (fun h_3047 => ?_) (fun h_3047 => ?_)
                  · have hltt : ¬ 1000 ≤ wd := fun q => by have := hlt.mpr q; rw [h_3047] at this; cases this
                    refine pw_aload_n (i := 0) C dX10_readWord_243 rfl rfl (Or.inr ⟨_, rfl⟩) ?_
                    refine pw_get (j := 25) C cl_X10 fl_X10_65 (by decide) rfl k_3004 rfl dX10_readWord_244 ?_
                    refine pw_stk (st' := [.ref (B 25)]) rfl ?_
                    refine pw_aload_n (i := 0) C dX10_readWord_247 rfl rfl (Or.inr ⟨_, rfl⟩) ?_
                    refine pw_get (j := 27) C cl_X10 fl_X10_210 (by decide) rfl k_3004 rfl dX10_readWord_248 ?_
                    refine pw_stk (st' := [.int (iZ (x 27)), .ref (B 25)]) rfl ?_
                    refine pw_stk (st' := [.int (iZ ((F.length : Nat) : Int)), .ref (B 25)]) (by rw [x27]) ?_
                    refine pw_iconst C dX10_readWord_251 ?_
                    refine pw_isub C dX10_readWord_252 ?_
                    refine pw_iconst C dX10_readWord_253 ?_
                    refine pw_iast C c_3037 ⟨by omega, by omega, by omega⟩ dX10_readWord_254 (fun w_3050 k_3048 o_3049 => ?_)
                    refine pw_goto (tgt := 375) C dX10_readWord_255 (by decide) ?_
                    have c_3051 := (o_3049 1000 (by omega)).trans k_3004
                    have hfa : (rFa f i (rEnd f ((len : Nat) : Int) i) wd dn F) = 0 := by rw [rFa_g (Or.inr (Or.inr (Or.inr (Or.inl (by omega))))) (fun q => by rw [hnat] at q; cases q), if_neg (by rw [hms]; decide), if_neg (fun q => by have := q.1; omega), if_neg hltt]
                    have R_3052 := hR.same (w' := w_3050) (fun k hk => (o_3049 k (by omega)).trans (o_3002 k (by omega)))
                    have c_3053 := ((o_3049 1024 (by omega)).trans (o_3002 1024 (by omega))).trans b1
                    have c_3054 := (o_3049 1025 (by omega)).trans c_3044
                    have c_3055 := ((o_3049 1027 (by omega)).trans (o_3002 1027 (by omega))).trans b4
                    have c_3056 := ((o_3049 1029 (by omega)).trans (o_3002 1029 (by omega))).trans b5
                    have htk : rTk f i (rEnd f ((len : Nat) : Int) i) dn F = (dn, (1, q.2.1, oNil) :: F2) := by rw [hFe]; exact rTk_46 (by omega)
                    have hie : itF ((1, q.2.1, oNil) :: F2) = itF F := by rw [hFe]; rfl
                    have hFr2 := hFr
                    rw [hFe] at hFr2
                    refine pw_vret C hr dX10_readWord_375 ⟨rfl, t, n, sN, fZ, x 17, (i + 1), x 22, x 27, x 29, x 30, x 31, fW, ?_, R_3052, Ext.rf, by omega, fun _ _ _ => rfl, ((o_3049 1017 (by omega)).trans (o_3002 1017 (by omega))).trans a16, u16, fun k hk => (o_3049 k (by omega)).trans (o_3002 k (by omega)), ?_⟩
                    · have h21z : ((0 : Nat) : Int) = x 21 := h21.symm
                      rw [hfa, h21z, ← h7, ← h10]; exact c_3051
                    · rw [hfa, if_pos rfl, htk]; refine ⟨rfl, by rw [hren], ⟨so, fr, _, la, it, c_3053, c_3054, k_3048, c_3055, c_3056, ⟨v1, v2, upz_inI v3 (by decide), v4, v5⟩, ⟨?_, fun _ => ?_, hFr2.2.2.1, (fun q => by cases q), hFr2.2.2.2.2.keep Ext.rf (fun j j0 j1 => ⟨rfl, rfl, upz_ne _ _ (by omega), rfl⟩)⟩, by rw [hie]; exact hIt⟩, ⟨by show x 27 = _; rw [x27, hFe]; rfl, by show x 29 = _; rw [hie]; exact x29, x31, x30⟩, ?_⟩
                      · rw [hFr2.1, if_neg (by omega), if_neg (show ¬ (1 : Nat) = 3 by decide)]
                      · rw [show ((F2.length : Nat) : Int) = ((F.length : Nat) : Int) - 1 by omega, upz_self]; rfl
                      · rw [hFe]; simp only [icn, qcn, icF]; rw [if_neg (show ¬ (1 : Nat) = 2 by decide), if_neg (show ¬ (1 : Nat) = 3 by decide), if_neg (show ¬ q.1 = 2 by omega), if_neg (show ¬ q.1 = 3 by omega)]; omega
                  · have hltt := hlt.mp h_3047
                    refine pw_aload_n (i := 0) C dX10_readWord_234 rfl rfl (Or.inr ⟨_, rfl⟩) ?_
                    refine pw_iconst C dX10_readWord_235 ?_
                    refine pw_iload_n (i := 2) C dX10_readWord_236 rfl rfl ?_
                    refine pw_callV (As := [.int (iZ 5), .int (iZ i)]) (st := []) C (m_X10_bad g l k_3004 (by exact h21)) my_X10_bad ml_X10_240 (pw_rec.of C k_3004 cl_X10.1) rfl ⟨Nat.le_of_ble_eq_true rfl, Nat.le_of_ble_eq_true rfl⟩ ⟨by (try dsimp only); omega, by (try dsimp only); omega⟩ rfl (Nat.le_of_ble_eq_true rfl) dX10_readWord_237 ?_
                    rintro _ w_3057 ⟨rfl, e_3058, o_3059⟩
                    refine pw_stk (st' := []) rfl ?_
                    refine pw_goto (tgt := 375) C dX10_readWord_240 (by decide) ?_
                    have R_3060 := hR.same (w' := w_3057) (fun k hk => (o_3059 k (by omega)).trans (o_3002 k (by omega)))
                    have hfa : (rFa f i (rEnd f ((len : Nat) : Int) i) wd dn F) = 5 := by rw [rFa_g (Or.inr (Or.inr (Or.inr (Or.inl (by omega))))) (fun q => by rw [hnat] at q; cases q), if_neg (by rw [hms]; decide), if_neg (fun q => by have := q.1; omega), if_pos (by omega)]
                    refine pw_vret C hr dX10_readWord_375 ⟨rfl, t, n, sN, fZ, x 17, (i + 1), i, x 27, x 29, x 30, x 31, fW, ?_, R_3060, Ext.rf, ?_, fun _ _ _ => rfl, ((o_3059 1017 (by omega)).trans (o_3002 1017 (by omega))).trans a16, u16, fun k hk => (o_3059 k (by omega)).trans (o_3002 k (by omega)), ?_⟩
                    · rw [hfa]; rw [← h7, ← h10]; exact e_3058
                    · omega
                    · rw [hfa, if_neg (by decide)]; exact ⟨rfl, (hA.same (fun k hk => (o_3059 k (by omega)).trans (o_3002 k (by omega))) Ext.rf).nil, by omega, by omega⟩
                · have hms : mSt (f i) dn F = false := by unfold mSt; rw [if_neg (by omega), if_pos (by omega), hFe]; exact decide_eq_false (fun e => e.2 (List.eq_nil_of_length_eq_zero (by omega)))
                  refine pw_aload_n (i := 0) C dX10_readWord_220 rfl rfl (Or.inr ⟨_, rfl⟩) ?_
                  refine pw_iconst C dX10_readWord_221 ?_
                  refine pw_iload_n (i := 2) C dX10_readWord_222 rfl rfl ?_
                  refine pw_callV (As := [.int (iZ 3), .int (iZ i)]) (st := []) C (m_X10_bad g l k_3004 (by exact h21)) my_X10_bad ml_X10_240 (pw_rec.of C k_3004 cl_X10.1) rfl ⟨Nat.le_of_ble_eq_true rfl, Nat.le_of_ble_eq_true rfl⟩ ⟨by (try dsimp only); omega, by (try dsimp only); omega⟩ rfl (Nat.le_of_ble_eq_true rfl) dX10_readWord_223 ?_
                  rintro _ w_3061 ⟨rfl, e_3062, o_3063⟩
                  refine pw_stk (st' := []) rfl ?_
                  refine pw_goto (tgt := 375) C dX10_readWord_226 (by decide) ?_
                  have R_3064 := hR.same (w' := w_3061) (fun k hk => (o_3063 k (by omega)).trans (o_3002 k (by omega)))
                  have hfa : (rFa f i (rEnd f ((len : Nat) : Int) i) wd dn F) = 3 := by rw [rFa_g (Or.inr (Or.inr (Or.inr (Or.inl (by omega))))) (fun q => by rw [hnat] at q; cases q), if_pos hms]
                  refine pw_vret C hr dX10_readWord_375 ⟨rfl, t, n, sN, fZ, x 17, (i + 1), i, x 27, x 29, x 30, x 31, fW, ?_, R_3064, Ext.rf, ?_, fun _ _ _ => rfl, ((o_3063 1017 (by omega)).trans (o_3002 1017 (by omega))).trans a16, u16, fun k hk => (o_3063 k (by omega)).trans (o_3002 k (by omega)), ?_⟩
                  · rw [hfa]; rw [← h7, ← h10]; exact e_3062
                  · omega
                  · rw [hfa, if_neg (by decide)]; exact ⟨rfl, (hA.same (fun k hk => (o_3063 k (by omega)).trans (o_3002 k (by omega))) Ext.rf).nil, by omega, by omega⟩
        · have hnat : atL (f i) = false := by rw [show f i = 41 by omega]; exact atL_ps.2.2.1
          have hren : (rEnd f ((len : Nat) : Int) i) = i + 1 := by unfold rEnd; rw [if_neg (by rw [hnat]; decide)]
          refine pw_aload_n (i := 0) C dX10_readWord_123 rfl rfl (Or.inr ⟨_, rfl⟩) ?_
          have hAx := hA.same (w' := w_3003) (fun k hk => (o_3002 k (by omega))) Ext.rf
          have hXx : MdX (va_up x 20 (i + 1)) t n dn F := MdX.of hX Ext.rf rfl rfl rfl rfl
          refine pw_callV (As := []) (st := []) C (m_X10_isInList g l k_3004 hAx hXx hl40) my_X10_isInList ml_X10_247 (pw_rec.of C k_3004 cl_X10.1) rfl ⟨Nat.le_of_ble_eq_true rfl, Nat.le_of_ble_eq_true rfl⟩ ⟨by (try dsimp only); omega, by (try dsimp only); omega⟩ rfl (Nat.le_of_ble_eq_true rfl) dX10_readWord_124 ?_
          rintro _ _ ⟨rfl, rfl⟩
          refine pw_stk (st' := [.int (iZ (b2i (isLs F)))]) rfl ?_
          refine pw_if_eqB (tgt := 145) C dX10_readWord_127 (by decide) (fun h_3065 => ?_) (fun h_3065 => ?_)
          · have hms : mSt (f i) dn F = false := by unfold mSt; rw [if_pos (by omega)]; exact (mCls_no h_3065 (fun q hq => (hP.2.2.2.1 q hq).1)).1
            refine pw_aload_n (i := 0) C dX10_readWord_145 rfl rfl (Or.inr ⟨_, rfl⟩) ?_
            refine pw_iconst C dX10_readWord_146 ?_
            refine pw_iload_n (i := 2) C dX10_readWord_147 rfl rfl ?_
            refine pw_callV (As := [.int (iZ 3), .int (iZ i)]) (st := []) C (m_X10_bad g l k_3004 (by exact h21)) my_X10_bad ml_X10_240 (pw_rec.of C k_3004 cl_X10.1) rfl ⟨Nat.le_of_ble_eq_true rfl, Nat.le_of_ble_eq_true rfl⟩ ⟨by (try dsimp only); omega, by (try dsimp only); omega⟩ rfl (Nat.le_of_ble_eq_true rfl) dX10_readWord_148 ?_
            rintro _ w_3066 ⟨rfl, e_3067, o_3068⟩
            refine pw_stk (st' := []) rfl ?_
            refine pw_goto (tgt := 375) C dX10_readWord_151 (by decide) ?_
            have R_3069 := hR.same (w' := w_3066) (fun k hk => (o_3068 k (by omega)).trans (o_3002 k (by omega)))
            have hfa : (rFa f i (rEnd f ((len : Nat) : Int) i) wd dn F) = 3 := by rw [rFa_g (Or.inr (Or.inr (Or.inl (by omega)))) (fun q => by rw [hnat] at q; cases q), if_pos hms]
            refine pw_vret C hr dX10_readWord_375 ⟨rfl, t, n, sN, fZ, x 17, (i + 1), i, x 27, x 29, x 30, x 31, fW, ?_, R_3069, Ext.rf, ?_, fun _ _ _ => rfl, ((o_3068 1017 (by omega)).trans (o_3002 1017 (by omega))).trans a16, u16, fun k hk => (o_3068 k (by omega)).trans (o_3002 k (by omega)), ?_⟩
            · rw [hfa]; rw [← h7, ← h10]; exact e_3067
            · omega
            · rw [hfa, if_neg (by decide)]; exact ⟨rfl, (hA.same (fun k hk => (o_3068 k (by omega)).trans (o_3002 k (by omega))) Ext.rf).nil, by omega, by omega⟩
          · have hil := h_3065
            obtain ⟨q, F2, hFe⟩ := ne_cons (F := F) (isLs_pos hil)
            have hFl2 : F.length = F2.length + 1 := by rw [hFe]; rfl
            have hq3 : q.1 ≠ 3 := by have := hil; rw [hFe] at this; exact of_decide_eq_true this
            have hFrq := hFr
            rw [hFe] at hFrq
            have hq2 := hFrq.2.1 hq3
            have hqfr := hFrq.2.2.1
            rw [show ((F2.length : Nat) : Int) = ((F.length : Nat) : Int) - 1 by omega] at hq2 hqfr
            have hqle := (hP.2.2.2.1 q (by rw [hFe]; exact List.mem_cons_self)).1
            have hqin : (itF F).length = (itF F2).length + q.2.1.length := by rw [hFe]; simp [itF]
            refine pw_aload_n (i := 0) C dX10_readWord_130 rfl rfl (Or.inr ⟨_, rfl⟩) ?_
            refine pw_get (j := 25) C cl_X10 fl_X10_65 (by decide) rfl k_3004 rfl dX10_readWord_131 ?_
            refine pw_stk (st' := [.ref (B 25)]) rfl ?_
            refine pw_aload_n (i := 0) C dX10_readWord_134 rfl rfl (Or.inr ⟨_, rfl⟩) ?_
            refine pw_get (j := 27) C cl_X10 fl_X10_210 (by decide) rfl k_3004 rfl dX10_readWord_135 ?_
            refine pw_stk (st' := [.int (iZ (x 27)), .ref (B 25)]) rfl ?_
            refine pw_stk (st' := [.int (iZ ((F.length : Nat) : Int)), .ref (B 25)]) (by rw [x27]) ?_
            refine pw_iconst C dX10_readWord_138 ?_
            refine pw_isub C dX10_readWord_139 ?_
            have c_3070 := (o_3002 1026 (by omega)).trans b3
            have g_3071 := v3 (((F.length : Nat) : Int) - 1)
            refine pw_iald C c_3070 ⟨by omega, by omega, by omega⟩ dX10_readWord_140 ?_
            refine pw_iconst C dX10_readWord_141 ?_
            refine pw_icmp_ne (tgt := 154) C (by omega) (by omega) dX10_readWord_142 (by decide) (fun h_3072 => ?_) (fun h_3072 => ?_)
            · have hqk : q.1 = 0 ∨ q.1 = 2 := by omega
              have hms : mSt (f i) dn F = true := by unfold mSt; rw [if_pos (by omega), hFe]; exact decide_eq_true hqk
              refine pw_iload C dX10_readWord_154 rfl ?_
              refine pw_if_eqB (tgt := 168) C dX10_readWord_156 (by decide) (fun h_3073 => ?_) (fun h_3073 => ?_)
              · have hltt : ¬ 1000 ≤ wd := fun q => by have := hlt.mpr q; rw [h_3073] at this; cases this
                refine pw_aload_n (i := 0) C dX10_readWord_168 rfl rfl (Or.inr ⟨_, rfl⟩) ?_
                have R_3074 := hR.same (w' := w_3003) (fun k hk => (o_3002 k (by omega)))
                have hAx := hA.same (w' := w_3003) (fun k hk => (o_3002 k (by omega))) Ext.rf
                have hXx : MdX (va_up x 20 (i + 1)) t n dn F := MdX.of hX Ext.rf rfl rfl rfl rfl
                have hdn := hP.none hms
                have hPq := hP
                rw [hFe] at hPq
                have hqf := hPq.2.2.2.1 q List.mem_cons_self
                have hqi : icn F = q.2.1.length + (if q.1 = 2 then 1 else 0) + icn F2 := by rw [hFe]; rfl
                have hqq : qcn F = qcn F2 := by rw [hFe]; simp only [qcn]; rw [if_neg (by omega)]; omega
                have hFk2 : FKs F2 := fun y hy => ⟨(hPq.2.2.2.1 y (List.mem_cons_of_mem _ hy)).1, hPq.2.2.2.2.2 y hy, (hPq.2.2.2.1 y (List.mem_cons_of_mem _ hy)).2.2.1⟩
                rw [hFe] at hAx
                rw [hFe, hdn] at hXx
                refine pw_callV (As := []) (st := []) C (m_X10_close g l k_3004 R_3074 h7 h10 hK hAx hXx (by rw [← hFe]; exact hl40) hFk2 (by rw [← hFe]; have := hP.2.1; omega) hqk hqf.2.1 (by omega)) my_X10_close ml_X10_250 (pw_rec.of C k_3004 cl_X10.1) rfl ⟨Nat.le_of_ble_eq_true rfl, Nat.le_of_ble_eq_true rfl⟩ ⟨by (try dsimp only); omega, by (try dsimp only); omega⟩ rfl (Nat.le_of_ble_eq_true rfl) dX10_readWord_169 ?_
                rintro _ w9 ⟨rfl, t9, n9, s9, Z9, o9, i9, h9, d9, g0, g1, g2, g3, g4, g5, g6, g7, g8⟩
                have hic2 := rDel_icn F2 (rLs q.2.1 q.2.2) (fun y hy => (hFk2 y hy).2.1)
                refine pw_stk (st' := []) rfl ?_
                refine pw_goto (tgt := 375) C dX10_readWord_172 (by decide) ?_
                have hfa : (rFa f i (rEnd f ((len : Nat) : Int) i) wd dn F) = 0 := by rw [rFa_g (Or.inr (Or.inr (Or.inl (by omega)))) (fun q => by rw [hnat] at q; cases q), if_neg (by rw [hms]; decide), if_neg (fun q => by have := q.1; omega), if_neg hltt]
                have htk : rTk f i (rEnd f ((len : Nat) : Int) i) dn F = (rDel (rLs q.2.1 q.2.2) F2) := by rw [hFe]; exact rTk_41 (by omega)
                refine pw_vret C hr dX10_readWord_375 ⟨rfl, t9, n9, s9, Z9, x 17, (i + 1), x 22, o9, i9, h9, d9, fW, ?_, g1, g2, ?_, g5, ((g8 1017 (by omega)).trans (o_3002 1017 (by omega))).trans a16, u16, fun k hk => (g8 k (by omega)).trans (o_3002 k (by omega)), ?_⟩
                · rw [hfa]; have h21' : ((0 : Nat) : Int) = x 21 := h21.symm; rw [h21']; exact g0
                · omega
                · rw [hfa, if_pos rfl, htk]; exact ⟨rfl, by rw [hren], g6, MdX.of g7 Ext.rf rfl rfl rfl rfl, by omega⟩
              · have hltt := hlt.mp h_3073
                refine pw_aload_n (i := 0) C dX10_readWord_159 rfl rfl (Or.inr ⟨_, rfl⟩) ?_
                refine pw_iconst C dX10_readWord_160 ?_
                refine pw_iload_n (i := 2) C dX10_readWord_161 rfl rfl ?_
                refine pw_callV (As := [.int (iZ 5), .int (iZ i)]) (st := []) C (m_X10_bad g l k_3004 (by exact h21)) my_X10_bad ml_X10_240 (pw_rec.of C k_3004 cl_X10.1) rfl ⟨Nat.le_of_ble_eq_true rfl, Nat.le_of_ble_eq_true rfl⟩ ⟨by (try dsimp only); omega, by (try dsimp only); omega⟩ rfl (Nat.le_of_ble_eq_true rfl) dX10_readWord_162 ?_
                rintro _ w_3075 ⟨rfl, e_3076, o_3077⟩
                refine pw_stk (st' := []) rfl ?_
                refine pw_goto (tgt := 375) C dX10_readWord_165 (by decide) ?_
                have R_3078 := hR.same (w' := w_3075) (fun k hk => (o_3077 k (by omega)).trans (o_3002 k (by omega)))
                have hfa : (rFa f i (rEnd f ((len : Nat) : Int) i) wd dn F) = 5 := by rw [rFa_g (Or.inr (Or.inr (Or.inl (by omega)))) (fun q => by rw [hnat] at q; cases q), if_neg (by rw [hms]; decide), if_neg (fun q => by have := q.1; omega), if_pos (by omega)]
                refine pw_vret C hr dX10_readWord_375 ⟨rfl, t, n, sN, fZ, x 17, (i + 1), i, x 27, x 29, x 30, x 31, fW, ?_, R_3078, Ext.rf, ?_, fun _ _ _ => rfl, ((o_3077 1017 (by omega)).trans (o_3002 1017 (by omega))).trans a16, u16, fun k hk => (o_3077 k (by omega)).trans (o_3002 k (by omega)), ?_⟩
                · rw [hfa]; rw [← h7, ← h10]; exact e_3076
                · omega
                · rw [hfa, if_neg (by decide)]; exact ⟨rfl, (hA.same (fun k hk => (o_3077 k (by omega)).trans (o_3002 k (by omega))) Ext.rf).nil, by omega, by omega⟩
            · have hms : mSt (f i) dn F = false := by unfold mSt; rw [if_pos (by omega), hFe]; exact decide_eq_false (by omega)
              refine pw_aload_n (i := 0) C dX10_readWord_145 rfl rfl (Or.inr ⟨_, rfl⟩) ?_
              refine pw_iconst C dX10_readWord_146 ?_
              refine pw_iload_n (i := 2) C dX10_readWord_147 rfl rfl ?_
              refine pw_callV (As := [.int (iZ 3), .int (iZ i)]) (st := []) C (m_X10_bad g l k_3004 (by exact h21)) my_X10_bad ml_X10_240 (pw_rec.of C k_3004 cl_X10.1) rfl ⟨Nat.le_of_ble_eq_true rfl, Nat.le_of_ble_eq_true rfl⟩ ⟨by (try dsimp only); omega, by (try dsimp only); omega⟩ rfl (Nat.le_of_ble_eq_true rfl) dX10_readWord_148 ?_
              rintro _ w_3079 ⟨rfl, e_3080, o_3081⟩
              refine pw_stk (st' := []) rfl ?_
              refine pw_goto (tgt := 375) C dX10_readWord_151 (by decide) ?_
              have R_3082 := hR.same (w' := w_3079) (fun k hk => (o_3081 k (by omega)).trans (o_3002 k (by omega)))
              have hfa : (rFa f i (rEnd f ((len : Nat) : Int) i) wd dn F) = 3 := by rw [rFa_g (Or.inr (Or.inr (Or.inl (by omega)))) (fun q => by rw [hnat] at q; cases q), if_pos hms]
              refine pw_vret C hr dX10_readWord_375 ⟨rfl, t, n, sN, fZ, x 17, (i + 1), i, x 27, x 29, x 30, x 31, fW, ?_, R_3082, Ext.rf, ?_, fun _ _ _ => rfl, ((o_3081 1017 (by omega)).trans (o_3002 1017 (by omega))).trans a16, u16, fun k hk => (o_3081 k (by omega)).trans (o_3002 k (by omega)), ?_⟩
              · rw [hfa]; rw [← h7, ← h10]; exact e_3080
              · omega
              · rw [hfa, if_neg (by decide)]; exact ⟨rfl, (hA.same (fun k hk => (o_3081 k (by omega)).trans (o_3002 k (by omega))) Ext.rf).nil, by omega, by omega⟩
      · have hok1 : f i = 40 ∨ f i = 39 ∨ f i = 41 ∨ f i = 46 ∨ atL (f i) = true := Or.inr (Or.inl (by omega))
        have hnat : atL (f i) = false := nat_op (by omega)
        have hren : (rEnd f ((len : Nat) : Int) i) = i + 1 := by unfold rEnd; rw [if_neg (by rw [hnat]; decide)]
        refine pw_aload_n (i := 0) C dX10_readWord_51 rfl rfl (Or.inr ⟨_, rfl⟩) ?_
        have hAx := hA.same (w' := w_3003) (fun k hk => (o_3002 k (by omega))) Ext.rf
        have hXx : MdX (va_up x 20 (i + 1)) t n dn F := MdX.of hX Ext.rf rfl rfl rfl rfl
        refine pw_callV (As := []) (st := []) C (m_X10_mayBegin g l k_3004 hAx hXx hl40 (fun q hq => (hP.2.2.2.1 q hq).1)) my_X10_mayBegin ml_X10_236 (pw_rec.of C k_3004 cl_X10.1) rfl ⟨Nat.le_of_ble_eq_true rfl, Nat.le_of_ble_eq_true rfl⟩ ⟨by (try dsimp only); omega, by (try dsimp only); omega⟩ rfl (Nat.le_of_ble_eq_true rfl) dX10_readWord_52 ?_
        rintro _ _ ⟨rfl, rfl⟩
        refine pw_stk (st' := [.int (iZ (b2i (mBeg dn F)))]) rfl ?_
        refine pw_if_neB (tgt := 67) C dX10_readWord_55 (by decide) (fun h_3083 => ?_) (fun h_3083 => ?_)
        · have hms : mSt (f i) dn F = true := by unfold mSt; rw [if_neg (by omega), if_neg (by omega)]; exact h_3083
          refine pw_aload_n (i := 0) C dX10_readWord_67 rfl rfl (Or.inr ⟨_, rfl⟩) ?_
          refine pw_get (j := 27) C cl_X10 fl_X10_210 (by decide) rfl k_3004 rfl dX10_readWord_68 ?_
          refine pw_stk (st' := [.int (iZ (x 27))]) rfl ?_
          refine pw_stk (st' := [.int (iZ ((F.length : Nat) : Int))]) (by rw [x27]) ?_
          refine pw_bipush C dX10_readWord_71 (by decide) ?_
          refine pw_icmp_ne (tgt := 85) C (by omega) (by omega) dX10_readWord_73 (by decide) (fun h_3084 => ?_) (fun h_3084 => ?_)
          · refine pw_iload C dX10_readWord_85 rfl ?_
            refine pw_if_eqB (tgt := 99) C dX10_readWord_87 (by decide) (fun h_3085 => ?_) (fun h_3085 => ?_)
            · have hltt : ¬ 1000 ≤ wd := fun q => by have := hlt.mpr q; rw [h_3085] at this; cases this
              refine pw_aload_n (i := 0) C dX10_readWord_99 rfl rfl (Or.inr ⟨_, rfl⟩) ?_
              refine pw_iload_n (i := 3) C dX10_readWord_100 rfl rfl ?_
              refine pw_bipush C dX10_readWord_101 (by decide) ?_
              refine pw_icmp_ne (tgt := 110) C (by omega) (by omega) dX10_readWord_103 (by decide) (fun h_3086 => ?_) (fun h_3086 => ?_)
              · refine pw_iconst C dX10_readWord_110 ?_
                have hAx := hA.same (w' := w_3003) (fun k hk => (o_3002 k (by omega))) Ext.rf
                have hXx : MdX (va_up x 20 (i + 1)) t n dn F := MdX.of hX Ext.rf rfl rfl rfl rfl
                refine pw_callV (As := [.int (iZ 1)]) (st := []) C (m_X10_begin g l k_3004 hAx hXx (by omega) (kd := 3) (so1 := 1) rfl (by decide) (by decide) (by have := itF_le F; have := hP.2.1; omega)) my_X10_begin ml_X10_244 (pw_rec.of C k_3004 cl_X10.1) rfl ⟨Nat.le_of_ble_eq_true rfl, Nat.le_of_ble_eq_true rfl⟩ ⟨by (try dsimp only); omega, by (try dsimp only); omega⟩ rfl (Nat.le_of_ble_eq_true rfl) dX10_readWord_111 ?_
                rintro _ wb ⟨rfl, gb, gA, gX, go⟩
                refine pw_stk (st' := []) rfl ?_
                refine pw_goto (tgt := 375) C dX10_readWord_114 (by decide) ?_
                have hfa : (rFa f i (rEnd f ((len : Nat) : Int) i) wd dn F) = 0 := by rw [rFa_g hok1 (fun q => by rw [hnat] at q; cases q), if_neg (by rw [hms]; decide), if_neg (fun q => by have := q.2; omega), if_neg hltt]
                have htk : rTk f i (rEnd f ((len : Nat) : Int) i) dn F = (dn, (3, [], oNil) :: F) := rTk_39 (by omega)
                have R_3087 := hR.same (w' := wb) (fun k hk => (go k (by omega)).trans (o_3002 k (by omega)))
                refine pw_vret C hr dX10_readWord_375 ⟨rfl, t, n, sN, fZ, x 17, (i + 1), x 22, ((F.length : Nat) : Int) + 1, x 29, x 30, x 31, fW, ?_, R_3087, Ext.rf, by omega, fun _ _ _ => rfl, ((go 1017 (by omega)).trans (o_3002 1017 (by omega))).trans a16, u16, fun k hk => (go k (by omega)).trans (o_3002 k (by omega)), ?_⟩
                · have h21z : ((0 : Nat) : Int) = x 21 := h21.symm
                  rw [hfa, h21z, ← h7, ← h10]; exact gb
                · rw [hfa, if_pos rfl, htk]; exact ⟨rfl, by rw [hren], gA, MdX.of gX Ext.rf rfl rfl rfl rfl, by simp only [icn, qcn, icF, List.length_nil]; rw [if_neg (by decide), if_pos (by decide)]; omega⟩
              · refine pw_iconst C dX10_readWord_106 ?_
                refine pw_goto (tgt := 111) C dX10_readWord_107 (by decide) ?_
                have hAx := hA.same (w' := w_3003) (fun k hk => (o_3002 k (by omega))) Ext.rf
                have hXx : MdX (va_up x 20 (i + 1)) t n dn F := MdX.of hX Ext.rf rfl rfl rfl rfl
                refine pw_callV (As := [.int (iZ 0)]) (st := []) C (m_X10_begin g l k_3004 hAx hXx (by omega) (kd := 0) (so1 := 0) rfl (by decide) (by decide) (by have := itF_le F; have := hP.2.1; omega)) my_X10_begin ml_X10_244 (pw_rec.of C k_3004 cl_X10.1) rfl ⟨Nat.le_of_ble_eq_true rfl, Nat.le_of_ble_eq_true rfl⟩ ⟨by (try dsimp only); omega, by (try dsimp only); omega⟩ rfl (Nat.le_of_ble_eq_true rfl) dX10_readWord_111 ?_
                rintro _ wb ⟨rfl, gb, gA, gX, go⟩
                refine pw_stk (st' := []) rfl ?_
                refine pw_goto (tgt := 375) C dX10_readWord_114 (by decide) ?_
                have hfa : (rFa f i (rEnd f ((len : Nat) : Int) i) wd dn F) = 0 := by rw [rFa_g hok1 (fun q => by rw [hnat] at q; cases q), if_neg (by rw [hms]; decide), if_neg (fun q => by have := q.2; omega), if_neg hltt]
                have htk : rTk f i (rEnd f ((len : Nat) : Int) i) dn F = (dn, (0, [], oNil) :: F) := rTk_40 (by omega)
                have R_3088 := hR.same (w' := wb) (fun k hk => (go k (by omega)).trans (o_3002 k (by omega)))
                refine pw_vret C hr dX10_readWord_375 ⟨rfl, t, n, sN, fZ, x 17, (i + 1), x 22, ((F.length : Nat) : Int) + 1, x 29, x 30, x 31, fW, ?_, R_3088, Ext.rf, by omega, fun _ _ _ => rfl, ((go 1017 (by omega)).trans (o_3002 1017 (by omega))).trans a16, u16, fun k hk => (go k (by omega)).trans (o_3002 k (by omega)), ?_⟩
                · have h21z : ((0 : Nat) : Int) = x 21 := h21.symm
                  rw [hfa, h21z, ← h7, ← h10]; exact gb
                · rw [hfa, if_pos rfl, htk]; exact ⟨rfl, by rw [hren], gA, MdX.of gX Ext.rf rfl rfl rfl rfl, by simp only [icn, qcn, icF, List.length_nil]; rw [if_neg (by decide), if_neg (by decide)]; omega⟩
            · have hltt := hlt.mp h_3085
              refine pw_aload_n (i := 0) C dX10_readWord_90 rfl rfl (Or.inr ⟨_, rfl⟩) ?_
              refine pw_iconst C dX10_readWord_91 ?_
              refine pw_iload_n (i := 2) C dX10_readWord_92 rfl rfl ?_
              refine pw_callV (As := [.int (iZ 5), .int (iZ i)]) (st := []) C (m_X10_bad g l k_3004 (by exact h21)) my_X10_bad ml_X10_240 (pw_rec.of C k_3004 cl_X10.1) rfl ⟨Nat.le_of_ble_eq_true rfl, Nat.le_of_ble_eq_true rfl⟩ ⟨by (try dsimp only); omega, by (try dsimp only); omega⟩ rfl (Nat.le_of_ble_eq_true rfl) dX10_readWord_93 ?_
              rintro _ w_3089 ⟨rfl, e_3090, o_3091⟩
              refine pw_stk (st' := []) rfl ?_
              refine pw_goto (tgt := 375) C dX10_readWord_96 (by decide) ?_
              have R_3092 := hR.same (w' := w_3089) (fun k hk => (o_3091 k (by omega)).trans (o_3002 k (by omega)))
              have hfa : (rFa f i (rEnd f ((len : Nat) : Int) i) wd dn F) = 5 := by rw [rFa_g hok1 (fun q => by rw [hnat] at q; cases q), if_neg (by rw [hms]; decide), if_neg (fun q => by have := q.1; omega), if_pos (by omega)]
              refine pw_vret C hr dX10_readWord_375 ⟨rfl, t, n, sN, fZ, x 17, (i + 1), i, x 27, x 29, x 30, x 31, fW, ?_, R_3092, Ext.rf, ?_, fun _ _ _ => rfl, ((o_3091 1017 (by omega)).trans (o_3002 1017 (by omega))).trans a16, u16, fun k hk => (o_3091 k (by omega)).trans (o_3002 k (by omega)), ?_⟩
              · rw [hfa]; rw [← h7, ← h10]; exact e_3090
              · omega
              · rw [hfa, if_neg (by decide)]; exact ⟨rfl, (hA.same (fun k hk => (o_3091 k (by omega)).trans (o_3002 k (by omega))) Ext.rf).nil, by omega, by omega⟩
          · refine pw_aload_n (i := 0) C dX10_readWord_76 rfl rfl (Or.inr ⟨_, rfl⟩) ?_
            refine pw_iconst C dX10_readWord_77 ?_
            refine pw_iload_n (i := 2) C dX10_readWord_78 rfl rfl ?_
            refine pw_callV (As := [.int (iZ 4), .int (iZ i)]) (st := []) C (m_X10_bad g l k_3004 (by exact h21)) my_X10_bad ml_X10_240 (pw_rec.of C k_3004 cl_X10.1) rfl ⟨Nat.le_of_ble_eq_true rfl, Nat.le_of_ble_eq_true rfl⟩ ⟨by (try dsimp only); omega, by (try dsimp only); omega⟩ rfl (Nat.le_of_ble_eq_true rfl) dX10_readWord_79 ?_
            rintro _ w_3093 ⟨rfl, e_3094, o_3095⟩
            refine pw_stk (st' := []) rfl ?_
            refine pw_goto (tgt := 375) C dX10_readWord_82 (by decide) ?_
            have R_3096 := hR.same (w' := w_3093) (fun k hk => (o_3095 k (by omega)).trans (o_3002 k (by omega)))
            have hfa : (rFa f i (rEnd f ((len : Nat) : Int) i) wd dn F) = 4 := by rw [rFa_g hok1 (fun q => by rw [hnat] at q; cases q), if_neg (by rw [hms]; decide), if_pos ⟨by omega, by omega⟩]
            refine pw_vret C hr dX10_readWord_375 ⟨rfl, t, n, sN, fZ, x 17, (i + 1), i, x 27, x 29, x 30, x 31, fW, ?_, R_3096, Ext.rf, ?_, fun _ _ _ => rfl, ((o_3095 1017 (by omega)).trans (o_3002 1017 (by omega))).trans a16, u16, fun k hk => (o_3095 k (by omega)).trans (o_3002 k (by omega)), ?_⟩
            · rw [hfa]; rw [← h7, ← h10]; exact e_3094
            · omega
            · rw [hfa, if_neg (by decide)]; exact ⟨rfl, (hA.same (fun k hk => (o_3095 k (by omega)).trans (o_3002 k (by omega))) Ext.rf).nil, by omega, by omega⟩
        · have hms : mSt (f i) dn F = false := by unfold mSt; rw [if_neg (by omega), if_neg (by omega)]; exact h_3083
          refine pw_aload_n (i := 0) C dX10_readWord_58 rfl rfl (Or.inr ⟨_, rfl⟩) ?_
          refine pw_iconst C dX10_readWord_59 ?_
          refine pw_iload_n (i := 2) C dX10_readWord_60 rfl rfl ?_
          refine pw_callV (As := [.int (iZ 3), .int (iZ i)]) (st := []) C (m_X10_bad g l k_3004 (by exact h21)) my_X10_bad ml_X10_240 (pw_rec.of C k_3004 cl_X10.1) rfl ⟨Nat.le_of_ble_eq_true rfl, Nat.le_of_ble_eq_true rfl⟩ ⟨by (try dsimp only); omega, by (try dsimp only); omega⟩ rfl (Nat.le_of_ble_eq_true rfl) dX10_readWord_61 ?_
          rintro _ w_3097 ⟨rfl, e_3098, o_3099⟩
          refine pw_stk (st' := []) rfl ?_
          refine pw_goto (tgt := 375) C dX10_readWord_64 (by decide) ?_
          have R_3100 := hR.same (w' := w_3097) (fun k hk => (o_3099 k (by omega)).trans (o_3002 k (by omega)))
          have hfa : (rFa f i (rEnd f ((len : Nat) : Int) i) wd dn F) = 3 := by rw [rFa_g hok1 (fun q => by rw [hnat] at q; cases q), if_pos hms]
          refine pw_vret C hr dX10_readWord_375 ⟨rfl, t, n, sN, fZ, x 17, (i + 1), i, x 27, x 29, x 30, x 31, fW, ?_, R_3100, Ext.rf, ?_, fun _ _ _ => rfl, ((o_3099 1017 (by omega)).trans (o_3002 1017 (by omega))).trans a16, u16, fun k hk => (o_3099 k (by omega)).trans (o_3002 k (by omega)), ?_⟩
          · rw [hfa]; rw [← h7, ← h10]; exact e_3098
          · omega
          · rw [hfa, if_neg (by decide)]; exact ⟨rfl, (hA.same (fun k hk => (o_3099 k (by omega)).trans (o_3002 k (by omega))) Ext.rf).nil, by omega, by omega⟩
  refine pw_aload_n (i := 0) C dX10_readWord_0 rfl rfl (Or.inr ⟨_, rfl⟩) ?_
  refine pw_get (j := 20) C cl_X10 fl_X10_201 (by decide) rfl h0 rfl dX10_readWord_1 ?_
  refine pw_stk (st' := [.int (iZ (x 20))]) rfl ?_
  refine pw_stk (st' := [.int (iZ i)]) (by rw [h20]) ?_
  refine pw_istore_n (i := 2) (lv' := [(0, .ref b), (1, .int (iZ (((wd : Nat) : Int) + 1))), (2, .int (iZ i))]) C dX10_readWord_4 rfl (by decide) rfl ?_
  refine pw_aload_n (i := 0) C dX10_readWord_5 rfl rfl (Or.inr ⟨_, rfl⟩) ?_
  refine pw_get (j := 12) C cl_X10 fl_X10_43 (by decide) rfl h0 rfl dX10_readWord_6 ?_
  refine pw_stk (st' := [.ref (B 12)]) rfl ?_
  refine pw_aload_n (i := 0) C dX10_readWord_9 rfl rfl (Or.inr ⟨_, rfl⟩) ?_
  refine pw_get (j := 20) C cl_X10 fl_X10_201 (by decide) rfl h0 rfl dX10_readWord_10 ?_
  refine pw_stk (st' := [.int (iZ (x 20)), .ref (B 12)]) rfl ?_
  refine pw_stk (st' := [.int (iZ i), .ref (B 12)]) (by rw [h20]) ?_
  have g_5001 := hfi i
  refine pw_iald C a12 ⟨by omega, by omega, by omega⟩ dX10_readWord_13 ?_
  refine pw_istore_n (i := 3) (lv' := [(0, .ref b), (1, .int (iZ (((wd : Nat) : Int) + 1))), (2, .int (iZ i)), (3, .int (iZ (f i)))]) C dX10_readWord_14 rfl (by decide) rfl ?_
  refine pw_iload_n (i := 1) C dX10_readWord_15 rfl rfl ?_
  refine pw_sipush C dX10_readWord_16 (by decide) ?_
  refine pw_icmp_le (tgt := 26) C (by omega) (by omega) dX10_readWord_19 (by decide) (fun h_5002 => ?_) (fun h_5002 => ?_)
  · refine pw_iconst C dX10_readWord_26 ?_
    refine pw_istore (lv' := [(0, .ref b), (1, .int (iZ (((wd : Nat) : Int) + 1))), (2, .int (iZ i)), (3, .int (iZ (f i))), (4, .int (iZ 0))]) C dX10_readWord_27 (by decide) rfl ?_
    exact main false ⟨fun q => (by cases q), fun q => absurd q (by omega)⟩
  · refine pw_iconst C dX10_readWord_22 ?_
    refine pw_goto (tgt := 27) C dX10_readWord_23 (by decide) ?_
    refine pw_istore (lv' := [(0, .ref b), (1, .int (iZ (((wd : Nat) : Int) + 1))), (2, .int (iZ i)), (3, .int (iZ (f i))), (4, .int (iZ 1))]) C dX10_readWord_27 (by decide) rfl ?_
    exact main true ⟨fun _ => (by omega), fun q => rfl⟩

