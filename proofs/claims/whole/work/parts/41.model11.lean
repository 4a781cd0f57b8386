/-! the reference: the calls that go through RUNS -/
abbrev mbrows : List Nat := [31, 32, 33, 34, 37]
abbrev erows : List Nat := [30, 40, 41, 42, 43, 44, 45, 46, 47, 48]
/-- a RUN of the reference ends so, in so many steps -/
def NEnd (τ : Sg) (f a w e t : Int) : Prop := ∃ J K, NInv w J ∧ 0 ≤ K ∧ J K (nStart τ f a w) ∧ ∀ kk υ, J kk υ → 0 ≤ υ 30 20 → υ 30 20 = e ∧ υ 30 19 = t
def MRun (σ : Sg) (re rt : RF) : Prop := MTR σ ∧ (∀ f a w, inRun f a w → (0 ≤ re f a w ∧ re f a w ≤ 9) ∧ (0 ≤ rt f a w ∧ rt f a w ≤ 300)) ∧ ∀ τ : Sg, (∀ k ∈ mbrows, τ k = σ k) → ∀ f a w, inRun f a w → NEnd τ f a w (re f a w) (rt f a w)
theorem MRun.move {σ τ : Sg} {re rt : RF} (h : MRun σ re rt) (hm : Sm erows σ τ) : MRun τ re rt :=
  ⟨fun f => by rw [hm 37 (by decide)]; exact h.1 f, h.2.1, fun υ hu => h.2.2 υ (fun k hk => (hu k hk).trans (hm k (by revert k; decide)))⟩
theorem MRun.get {σ : Sg} {re rt : RF} (h : MRun σ re rt) {f a w : Int} (hi : inRun f a w) : NEnd σ f a w (re f a w) (rt f a w) := h.2.2 σ (fun _ _ => rfl) f a w hi
theorem wideE {σ τ : Sg} (h : Sm nrows σ τ) : Sm erows σ τ := h.wide (by decide)
theorem rows729 {f : Int} (h : 0 ≤ f ∧ f < 4) : stV 1 f ≤ 729 := (stV1_in h).2
def srM (e : Int) : Int := if e < 8 then 0 else if e = 8 then 1 else 2
def pEndsM (re : RF) (f k : Int) : Int → Int := fun r => if arN f r (nA f).toNat = true ∧ srM (re f r 1) = k then 1 else 0
def vEndsM (re : RF) (x k : Int) : Int := if 0 ≤ x ∧ x < 4 then (if 0 ≤ k ∧ k ≤ 2 then smF (pEndsM re x k) (stV 1 x).toNat else -2) else -1
def pStepsM (re rt : RF) (f w : Int) : Int → Int := fun r => if arN f r (nA f).toNat = true ∧ re f r 1 < 8 then rt f r w else 0
def vStepsM (re rt : RF) (x w : Int) : Int := if 0 ≤ x ∧ x < 4 then (if 0 ≤ w ∧ w < 4 then smF (pStepsM re rt x w) (stV 1 x).toNat else -2) else -1
theorem pUn_in (re : RF) (f w o j : Int) : 0 ≤ pUn re f w o j ∧ pUn re f w o j ≤ 1 := by unfold pUn; split <;> decide
theorem smUn_in (re : RF) (f w o : Int) (n : Nat) : 0 ≤ smF (pUn re f w o) n ∧ smF (pUn re f w o) n ≤ n := by
  have h := smF_in (m := 1) (by decide) (pUn_in re f w o) n
  omega
def pw9 : Nat → Int
  | 0 => 1
  | j + 1 => pw9 j * 9
def byM (x y : Int) : Int := pw9 (nA x - 1 - y).toNat
def fMatM (re : RF) (x y : Int) : Nat → Int → Int
  | 0, _ => 0
  | n + 1, r => if (arN x r (nA x).toNat = true ∧ tdo x r y < 7) ∧ ¬ re x r 1 = re x (r + byM x y) 1 then 1 else fMatM re x y n (r + 1)
def vMatM (re : RF) (x y : Int) : Int := if (0 ≤ x ∧ x < 4) ∧ 0 ≤ y ∧ y < nA x then fMatM re x y (stV 1 x).toNat 0 else -1
theorem three {y : Int} (h : 0 ≤ y ∧ y < 3) : y = 0 ∨ y = 1 ∨ y = 2 := by omega
theorem byM_in {x y r : Int} (hx : 0 ≤ x ∧ x < 4) (hy : 0 ≤ y ∧ y < nA x) (hr : 0 ≤ r ∧ r < stV 1 x) (h7 : tdo x r y < 7) : 0 ≤ byM x y ∧ r + byM x y < stV 1 x := by
  have h9 := nA_in x
  rcases four hx with rfl | rfl | rfl | rfl <;> rcases three (y := y) (by omega) with rfl | rfl | rfl <;> (first | (exfalso; revert hy; decide) | skip)
  · change 0 ≤ r ∧ r < 9 at hr; change r % 9 < 7 at h7; change 0 ≤ (1 : Int) ∧ r + 1 < 9; omega
  · change 0 ≤ r ∧ r < 81 at hr; change r / 9 % 9 < 7 at h7; change 0 ≤ (9 : Int) ∧ r + 9 < 81; omega
  · change 0 ≤ r ∧ r < 81 at hr; change r % 9 < 7 at h7; change 0 ≤ (1 : Int) ∧ r + 1 < 81; omega
  · change 0 ≤ r ∧ r < 729 at hr; change r / 9 / 9 % 9 < 7 at h7; change 0 ≤ (81 : Int) ∧ r + 81 < 729; omega
  · change 0 ≤ r ∧ r < 729 at hr; change r / 9 % 9 < 7 at h7; change 0 ≤ (9 : Int) ∧ r + 9 < 729; omega
  · change 0 ≤ r ∧ r < 729 at hr; change r % 9 < 7 at h7; change 0 ≤ (1 : Int) ∧ r + 1 < 729; omega
  · change 0 ≤ r ∧ r < 81 at hr; change r / 9 % 9 < 7 at h7; change 0 ≤ (9 : Int) ∧ r + 9 < 81; omega
  · change 0 ≤ r ∧ r < 81 at hr; change r % 9 < 7 at h7; change 0 ≤ (1 : Int) ∧ r + 1 < 81; omega
theorem tdo_in (f a k : Int) : 0 ≤ tdo f a k ∧ tdo f a k < 9 := by unfold tdo; omega
theorem un_last {re : RF} {x w o n g r : Int} (h0 : n = 0 → g = -6 ∧ fUn re x w o (stV 1 x - r).toNat r = fUn re x w o (stV 1 x).toNat 0) (h1 : n ≠ 0 → g = fUn re x w o (stV 1 x).toNat 0) (hr : stV 1 x ≤ r) : g = fUn re x w o (stV 1 x).toNat 0 := by
  by_cases e : n = 0
  · obtain ⟨a, b⟩ := h0 e
    rw [show (stV 1 x - r).toNat = 0 by omega] at b
    rw [a, ← b]
    rfl
  · exact h1 e
set_option maxHeartbeats 1000000 in
theorem c_X9_run (l : Launch) (E : Ev) (q : Nat → Nat) (sh : List Shp) (σ : Sg) (hs : HsM sh) (x y w k : Int) (re rt : RF) (rx : rg x) (ry : rg y) (rw : rg w) (rk : rg k) (hR : MRun σ re rt) : CI l E yX9_run cX9_run 5 .int ({ frames := 7, cells := 0, slots := 0, locals := 160 } : Room) q sh σ [.ref (q 30), vI x, vI y, vI w, vI k] (fun z τ => z = vRun re rt x y w k ∧ Sm erows σ τ) := by
  have rx1 := rx.1
  have rx2 := rx.2
  have ry1 := ry.1
  have ry2 := ry.2
  have rw1 := rw.1
  have rw2 := rw.2
  have rk1 := rk.1
  have rk2 := rk.2
  refine CI_of (own := RX9) (by decide) rfl (Nat.le_of_ble_eq_true rfl) (fun X Q F hQ => ?_)
  show G X E 5 q sh σ 0 0 Q 0 [(0, .ref (q 30)), (1, vI x), (2, vI y), (3, vI w), (4, vI k)] []
  refine g_iload_n F 1 rfl rfl d_X9_run_0 ?_
  refine g_Si F (own := RX9) (c_X9_isFunction l E q sh σ x ⟨by omega, by omega⟩) k_X9_99 [] d_X9_run_1 ⟨rfl, rfl, by decide, by decide⟩ ⟨Nat.zero_le _, Nat.zero_le _⟩ rfl (Nat.le_of_ble_eq_true rfl) ?_
  rintro _ _ ⟨rfl, rfl⟩
  refine g_b_ne F d_X9_run_4 (fun h4 => ?_) (fun h4 => ?_)
  · have t1 := stV1_in h4
    refine g_iload_n F 2 rfl rfl d_X9_run_9 ?_
    refine g_i2l F ⟨by omega, by omega⟩ d_X9_run_10 ?_
    refine g_lconst F (z := 0) rfl d_X9_run_11 ?_
    refine g_iload_n F 1 rfl rfl d_X9_run_12 ?_
    refine g_Si F (own := RX9) (c_X9_rowsOf l E q sh σ x (by omega)) k_X9_200 [vL (0), vL (y)] d_X9_run_13 ⟨rfl, rfl, by decide, by decide⟩ ⟨Nat.zero_le _, Nat.zero_le _⟩ rfl (Nat.le_of_ble_eq_true rfl) ?_
    rintro _ _ ⟨rfl, rfl⟩
    refine g_iconst F d_X9_run_16 ?_
    refine g_isub F d_X9_run_17 ?_
    refine g_i2l F ⟨by omega, by omega⟩ d_X9_run_18 ?_
    refine g_Si F (own := RX9) (c_X9_in l E q sh σ y 0 ((stV 1 x) - 1) ry ⟨by decide, by decide⟩ ⟨by omega, by omega⟩) k_X9_69 [] d_X9_run_19 ⟨rfl, rfl, by decide, by decide⟩ ⟨Nat.zero_le _, Nat.zero_le _⟩ rfl (Nat.le_of_ble_eq_true rfl) ?_
    rintro _ _ ⟨rfl, rfl⟩
    refine g_b_eq F d_X9_run_22 (fun h22 => ?_) (fun h22 => ?_)
    · refine g_bipush F (by decide) d_X9_run_43 ?_
      exact hQ d_X9_run_45 (⟨by unfold vRun; rw [if_pos h4]; by_cases c : (0 ≤ y ∧ y < stV 1 x) ∧ (0 ≤ w ∧ w < 4); (rw [if_pos c, if_neg (by omega), if_neg (by omega)]); (rw [if_neg c]), Sm.refl _ _⟩)
    · refine g_iload_n F 3 rfl rfl d_X9_run_25 ?_
      refine g_Si F (own := RX9) (c_X9_isWay l E q sh σ w ⟨by omega, by omega⟩) k_X9_203 [] d_X9_run_26 ⟨rfl, rfl, by decide, by decide⟩ ⟨Nat.zero_le _, Nat.zero_le _⟩ rfl (Nat.le_of_ble_eq_true rfl) ?_
      rintro _ _ ⟨rfl, rfl⟩
      refine g_b_eq F d_X9_run_29 (fun h29 => ?_) (fun h29 => ?_)
      · refine g_bipush F (by decide) d_X9_run_43 ?_
        exact hQ d_X9_run_45 (⟨by unfold vRun; rw [if_pos h4]; by_cases c : (0 ≤ y ∧ y < stV 1 x) ∧ (0 ≤ w ∧ w < 4); (rw [if_pos c, if_neg (by omega), if_neg (by omega)]); (rw [if_neg c]), Sm.refl _ _⟩)
      · refine g_iload F 4 rfl d_X9_run_32 ?_
        refine g_i2l F ⟨by omega, by omega⟩ d_X9_run_34 ?_
        refine g_lconst F (z := 0) rfl d_X9_run_35 ?_
        refine g_lconst F (z := 1) rfl d_X9_run_36 ?_
        refine g_Si F (own := RX9) (c_X9_in l E q sh σ k 0 1 rk ⟨by decide, by decide⟩ ⟨by decide, by decide⟩) k_X9_69 [] d_X9_run_37 ⟨rfl, rfl, by decide, by decide⟩ ⟨Nat.zero_le _, Nat.zero_le _⟩ rfl (Nat.le_of_ble_eq_true rfl) ?_
        rintro _ _ ⟨rfl, rfl⟩
        refine g_b_ne F d_X9_run_40 (fun h40 => ?_) (fun h40 => ?_)
        · have hin : inRun x y w := ⟨h4, by omega, h29⟩
          have hb := hR.2.1 x y w hin
          obtain ⟨J5, K5, nv5, k05, js5, fin5⟩ := hR.get hin
          refine g_aload_n F 0 rfl rfl d_X9_run_46 ?_
          refine g_iload_n F 1 rfl rfl d_X9_run_47 ?_
          refine g_iload_n F 2 rfl rfl d_X9_run_48 ?_
          refine g_iload_n F 3 rfl rfl d_X9_run_49 ?_
          refine g_Vv F (own := RX9) (c_X9_runIt l E q sh σ hs x y w J5 K5 h4 (by omega) h29 hR.1 nv5 k05 js5) k_X9_206 (hsM_30 hs) rfl rfl [] d_X9_run_50 ⟨rfl, rfl, by decide, by decide⟩ ⟨Nat.zero_le _, Nat.zero_le _⟩ rfl (Nat.le_of_ble_eq_true rfl) ?_
          intro τ5 hz5
          obtain ⟨⟨kk5, hj5⟩, h05, hm5⟩ := hz5
          obtain ⟨e205, e195⟩ := fin5 kk5 τ5 hj5 h05
          clear hj5
          refine g_iload F 4 rfl d_X9_run_53 ?_
          refine g_if_ne F d_X9_run_55 ⟨by omega, by omega⟩ (fun h55 => ?_) (fun h55 => ?_)
          · refine g_aload_n F 0 rfl rfl d_X9_run_65 ?_
            refine g_getI F 19 f_X9_158 d_X9_run_66 (hsM_30 hs) rfl rfl ?_
            refine G_top (b := rt x y w) (e195) ?_
            exact hQ d_X9_run_69 (⟨by unfold vRun; rw [if_pos h4, if_pos (by omega)]; first | (rw [if_pos h55]; done) | (rw [if_neg h55, if_pos (by omega)]; done), wideE hm5⟩)
          · refine g_aload_n F 0 rfl rfl d_X9_run_58 ?_
            refine g_getI F 20 f_X9_161 d_X9_run_59 (hsM_30 hs) rfl rfl ?_
            refine G_top (b := re x y w) (e205) ?_
            refine g_goto F d_X9_run_62 ?_
            exact hQ d_X9_run_69 (⟨by unfold vRun; rw [if_pos h4, if_pos (by omega)]; first | (rw [if_pos h55]; done) | (rw [if_neg h55, if_pos (by omega)]; done), wideE hm5⟩)
        · refine g_bipush F (by decide) d_X9_run_43 ?_
          exact hQ d_X9_run_45 (⟨by unfold vRun; rw [if_pos h4]; by_cases c : (0 ≤ y ∧ y < stV 1 x) ∧ (0 ≤ w ∧ w < 4); (rw [if_pos c, if_neg (by omega), if_neg (by omega)]); (rw [if_neg c]), Sm.refl _ _⟩)
  · refine g_iconst F d_X9_run_7 ?_
    exact hQ d_X9_run_8 (⟨by unfold vRun; rw [if_neg h4], Sm.refl _ _⟩)
set_option maxHeartbeats 1000000 in
theorem c_X9_ends (l : Launch) (E : Ev) (q : Nat → Nat) (sh : List Shp) (σ : Sg) (hs : HsM sh) (x k : Int) (re rt : RF) (rx : rg x) (rk : rg k) (hR : MRun σ re rt) : CI l E yX9_ends cX9_ends 5 .int ({ frames := 7, cells := 0, slots := 0, locals := 160 } : Room) q sh σ [.ref (q 30), vI x, vI k] (fun z τ => z = vEndsM re x k ∧ Sm erows σ τ) := by
  have rx1 := rx.1
  have rx2 := rx.2
  have rk1 := rk.1
  have rk2 := rk.2
  refine CI_of (own := RX9) (by decide) rfl (Nat.le_of_ble_eq_true rfl) (fun X Q F hQ => ?_)
  show G X E 5 q sh σ 0 0 Q 0 [(0, .ref (q 30)), (1, vI x), (2, vI k)] []
  refine g_iload_n F 1 rfl rfl d_X9_ends_0 ?_
  refine g_Si F (own := RX9) (c_X9_isFunction l E q sh σ x ⟨by omega, by omega⟩) k_X9_99 [] d_X9_ends_1 ⟨rfl, rfl, by decide, by decide⟩ ⟨Nat.zero_le _, Nat.zero_le _⟩ rfl (Nat.le_of_ble_eq_true rfl) ?_
  rintro _ _ ⟨rfl, rfl⟩
  refine g_b_ne F d_X9_ends_4 (fun h4 => ?_) (fun h4 => ?_)
  · refine g_iload_n F 2 rfl rfl d_X9_ends_9 ?_
    refine g_i2l F ⟨by omega, by omega⟩ d_X9_ends_10 ?_
    refine g_lconst F (z := 0) rfl d_X9_ends_11 ?_
    refine g_ldc2 F (z := 2) (mg 957 (by decide +kernel) rfl) d_X9_ends_12 ?_
    refine g_Si F (own := RX9) (c_X9_in l E q sh σ k 0 2 rk ⟨by decide, by decide⟩ ⟨by decide, by decide⟩) k_X9_69 [] d_X9_ends_15 ⟨rfl, rfl, by decide, by decide⟩ ⟨Nat.zero_le _, Nat.zero_le _⟩ rfl (Nat.le_of_ble_eq_true rfl) ?_
    rintro _ _ ⟨rfl, rfl⟩
    refine g_b_ne F d_X9_ends_18 (fun h18 => ?_) (fun h18 => ?_)
    · have t2 := stV1_in h4
      refine g_iconst F d_X9_ends_24 ?_
      refine g_istore_n F (lv' := [(3, vI 0), (0, .ref (q 30)), (1, vI x), (2, vI k)]) rfl (by decide) rfl d_X9_ends_25 ?_
      refine g_iconst F d_X9_ends_26 ?_
      refine g_istore F (lv' := [(4, vI 0), (3, vI 0), (0, .ref (q 30)), (1, vI x), (2, vI k)]) (by decide) rfl d_X9_ends_27 ?_
      have loop29 : ∀ (nn : Nat) (n : Int) (r : Int) (τ : Sg), (0 ≤ r ∧ r ≤ stV 1 x) → (n = smF (pEndsM re x k) r.toNat) → (Sm erows σ τ) → (stV 1 x - r).toNat < nn → G X E 5 q sh τ 0 0 Q 29 [(0, .ref (q 30)), (1, vI x), (2, vI k), (3, vI n), (4, vI r)] [] := by
        intro n29
        induction n29 with
        | zero => intro n r τ hr hn hm hm29; exact absurd hm29 (Nat.not_lt_zero _)
        | succ n29 ih29 =>
          intro n r τ hr hn hm hm29
          refine g_iload F 4 rfl d_X9_ends_29 ?_
          refine g_iload_n F 1 rfl rfl d_X9_ends_31 ?_
          refine g_Si F (own := RX9) (c_X9_rowsOf l E q sh τ x (by omega)) k_X9_200 [vI r] d_X9_ends_32 ⟨rfl, rfl, by decide, by decide⟩ ⟨Nat.zero_le _, Nat.zero_le _⟩ rfl (Nat.le_of_ble_eq_true rfl) ?_
          rintro _ _ ⟨rfl, rfl⟩
          refine g_icmp_ge F d_X9_ends_35 ⟨by omega, by omega⟩ ⟨by omega, by omega⟩ (fun h35 => ?_) (fun h35 => ?_)
          · refine g_iload_n F 3 rfl rfl d_X9_ends_100 ?_
            exact hQ d_X9_ends_101 (⟨by unfold vEndsM; rw [if_pos h4, if_pos h18, hn, show r = stV 1 x by omega], hm⟩)
          · have hin : inRun x r 1 := ⟨h4, by omega, by decide, by decide⟩
            have hb1 := (hR.2.1 x r 1 hin).1
            have hR1 := hR.move hm
            obtain ⟨J5, K5, nv5, k05, js5, fin5⟩ := hR1.get hin
            refine g_iload_n F 1 rfl rfl d_X9_ends_38 ?_
            refine g_iload F 4 rfl d_X9_ends_39 ?_
            refine g_Si F (own := RX9) (c_X9_areNumbers l E q sh τ x r h4 (by omega)) k_X9_211 [] d_X9_ends_41 ⟨rfl, rfl, by decide, by decide⟩ ⟨Nat.zero_le _, Nat.zero_le _⟩ rfl (Nat.le_of_ble_eq_true rfl) ?_
            rintro _ _ ⟨rfl, rfl⟩
            refine g_b_eq F d_X9_ends_44 (fun h44 => ?_) (fun h44 => ?_)
            · refine g_iinc F (lv' := [(4, vI (r + 1)), (0, .ref (q 30)), (1, vI x), (2, vI k), (3, vI n)]) 4 rfl rfl (by decide) rfl d_X9_ends_94 ?_
              refine g_goto F d_X9_ends_97 ?_
              have hn2 : n = smF (pEndsM re x k) (r + 1).toNat := by
                rw [sm_toNat hr.1, ← hn]
                unfold pEndsM srM
                first
                  | (rw [if_neg (fun z => h44 z.1), Int.add_zero]; done)
                  | (exfalso; omega)
                  | (rw [if_pos (show re x r 1 < 8 by omega), if_pos ⟨h44, by omega⟩]; done)
                  | (rw [if_pos (show re x r 1 < 8 by omega), if_neg (fun z => by have := z.2; omega)]; done)
                  | (rw [if_neg (show ¬ re x r 1 < 8 by omega), if_pos (show re x r 1 = 8 by omega), if_pos ⟨h44, by omega⟩]; done)
                  | (rw [if_neg (show ¬ re x r 1 < 8 by omega), if_pos (show re x r 1 = 8 by omega), if_neg (fun z => by have := z.2; omega)]; done)
                  | (rw [if_neg (show ¬ re x r 1 < 8 by omega), if_neg (show ¬ re x r 1 = 8 by omega), if_pos ⟨h44, by omega⟩]; done)
                  | (rw [if_neg (show ¬ re x r 1 < 8 by omega), if_neg (show ¬ re x r 1 = 8 by omega), if_neg (fun z => by have := z.2; omega)]; done)
              have hm9 : Sm erows σ τ := by first | exact hm | exact hm.trans (wideE hm5)
              refine G_sub (ks := [1, 2, 3, 4, 0]) rfl ?_
              exact ih29 n (r + 1) τ (by omega) hn2 hm9 (by omega)
            · refine g_aload_n F 0 rfl rfl d_X9_ends_47 ?_
              refine g_iload_n F 1 rfl rfl d_X9_ends_48 ?_
              refine g_iload F 4 rfl d_X9_ends_49 ?_
              refine g_iconst F d_X9_ends_51 ?_
              refine g_Vv F (own := RX9) (c_X9_runIt l E q sh τ hs x r 1 J5 K5 h4 (by omega) (by decide) hR1.1 nv5 k05 js5) k_X9_206 (hsM_30 hs) rfl rfl [] d_X9_ends_52 ⟨rfl, rfl, by decide, by decide⟩ ⟨Nat.zero_le _, Nat.zero_le _⟩ rfl (Nat.le_of_ble_eq_true rfl) ?_
              intro τ5 hz5
              obtain ⟨⟨kk5, hj5⟩, h05, hm5⟩ := hz5
              obtain ⟨e205, e195⟩ := fin5 kk5 τ5 hj5 h05
              clear hj5
              refine g_iload_n F 3 rfl rfl d_X9_ends_55 ?_
              refine g_aload_n F 0 rfl rfl d_X9_ends_56 ?_
              refine g_getI F 20 f_X9_161 d_X9_ends_57 (hsM_30 hs) rfl rfl ?_
              refine G_top (b := re x r 1) (e205) ?_
              refine g_bipush F (by decide) d_X9_ends_60 ?_
              refine g_icmp_ge F d_X9_ends_62 ⟨by omega, by omega⟩ ⟨by decide, by decide⟩ (fun h62 => ?_) (fun h62 => ?_)
              · refine g_aload_n F 0 rfl rfl d_X9_ends_69 ?_
                refine g_getI F 20 f_X9_161 d_X9_ends_70 (hsM_30 hs) rfl rfl ?_
                refine G_top (b := re x r 1) (e205) ?_
                refine g_bipush F (by decide) d_X9_ends_73 ?_
                refine g_icmp_ne F d_X9_ends_75 ⟨by omega, by omega⟩ ⟨by decide, by decide⟩ (fun h75 => ?_) (fun h75 => ?_)
                · refine g_iconst F d_X9_ends_82 ?_
                  refine g_iload_n F 2 rfl rfl d_X9_ends_83 ?_
                  refine g_icmp_ne F d_X9_ends_84 ⟨by decide, by decide⟩ ⟨by omega, by omega⟩ (fun h84 => ?_) (fun h84 => ?_)
                  · refine g_iconst F d_X9_ends_91 ?_
                    refine g_iadd F d_X9_ends_92 ?_
                    refine g_istore_n F (lv' := [(3, vI (n + 0)), (0, .ref (q 30)), (1, vI x), (2, vI k), (4, vI r)]) rfl (by decide) rfl d_X9_ends_93 ?_
                    refine g_iinc F (lv' := [(4, vI (r + 1)), (3, vI (n + 0)), (0, .ref (q 30)), (1, vI x), (2, vI k)]) 4 rfl rfl (by decide) rfl d_X9_ends_94 ?_
                    refine g_goto F d_X9_ends_97 ?_
                    have hn2 : (n + 0) = smF (pEndsM re x k) (r + 1).toNat := by
                      rw [sm_toNat hr.1, ← hn]
                      unfold pEndsM srM
                      first
                        | (rw [if_neg (fun z => h44 z.1), Int.add_zero]; done)
                        | (exfalso; omega)
                        | (rw [if_pos (show re x r 1 < 8 by omega), if_pos ⟨h44, by omega⟩]; done)
                        | (rw [if_pos (show re x r 1 < 8 by omega), if_neg (fun z => by have := z.2; omega)]; done)
                        | (rw [if_neg (show ¬ re x r 1 < 8 by omega), if_pos (show re x r 1 = 8 by omega), if_pos ⟨h44, by omega⟩]; done)
                        | (rw [if_neg (show ¬ re x r 1 < 8 by omega), if_pos (show re x r 1 = 8 by omega), if_neg (fun z => by have := z.2; omega)]; done)
                        | (rw [if_neg (show ¬ re x r 1 < 8 by omega), if_neg (show ¬ re x r 1 = 8 by omega), if_pos ⟨h44, by omega⟩]; done)
                        | (rw [if_neg (show ¬ re x r 1 < 8 by omega), if_neg (show ¬ re x r 1 = 8 by omega), if_neg (fun z => by have := z.2; omega)]; done)
                    have hm9 : Sm erows σ τ5 := by first | exact hm | exact hm.trans (wideE hm5)
                    refine G_sub (ks := [2, 3, 4, 1, 0]) rfl ?_
                    exact ih29 (n + 0) (r + 1) τ5 (by omega) hn2 hm9 (by omega)
                  · refine g_iconst F d_X9_ends_87 ?_
                    refine g_goto F d_X9_ends_88 ?_
                    refine g_iadd F d_X9_ends_92 ?_
                    refine g_istore_n F (lv' := [(3, vI (n + 1)), (0, .ref (q 30)), (1, vI x), (2, vI k), (4, vI r)]) rfl (by decide) rfl d_X9_ends_93 ?_
                    refine g_iinc F (lv' := [(4, vI (r + 1)), (3, vI (n + 1)), (0, .ref (q 30)), (1, vI x), (2, vI k)]) 4 rfl rfl (by decide) rfl d_X9_ends_94 ?_
                    refine g_goto F d_X9_ends_97 ?_
                    have hn2 : (n + 1) = smF (pEndsM re x k) (r + 1).toNat := by
                      rw [sm_toNat hr.1, ← hn]
                      unfold pEndsM srM
                      first
                        | (rw [if_neg (fun z => h44 z.1), Int.add_zero]; done)
                        | (exfalso; omega)
                        | (rw [if_pos (show re x r 1 < 8 by omega), if_pos ⟨h44, by omega⟩]; done)
                        | (rw [if_pos (show re x r 1 < 8 by omega), if_neg (fun z => by have := z.2; omega)]; done)
                        | (rw [if_neg (show ¬ re x r 1 < 8 by omega), if_pos (show re x r 1 = 8 by omega), if_pos ⟨h44, by omega⟩]; done)
                        | (rw [if_neg (show ¬ re x r 1 < 8 by omega), if_pos (show re x r 1 = 8 by omega), if_neg (fun z => by have := z.2; omega)]; done)
                        | (rw [if_neg (show ¬ re x r 1 < 8 by omega), if_neg (show ¬ re x r 1 = 8 by omega), if_pos ⟨h44, by omega⟩]; done)
                        | (rw [if_neg (show ¬ re x r 1 < 8 by omega), if_neg (show ¬ re x r 1 = 8 by omega), if_neg (fun z => by have := z.2; omega)]; done)
                    have hm9 : Sm erows σ τ5 := by first | exact hm | exact hm.trans (wideE hm5)
                    refine G_sub (ks := [2, 3, 4, 1, 0]) rfl ?_
                    exact ih29 (n + 1) (r + 1) τ5 (by omega) hn2 hm9 (by omega)
                · refine g_iconst F d_X9_ends_78 ?_
                  refine g_goto F d_X9_ends_79 ?_
                  refine g_iload_n F 2 rfl rfl d_X9_ends_83 ?_
                  refine g_icmp_ne F d_X9_ends_84 ⟨by decide, by decide⟩ ⟨by omega, by omega⟩ (fun h84 => ?_) (fun h84 => ?_)
                  · refine g_iconst F d_X9_ends_91 ?_
                    refine g_iadd F d_X9_ends_92 ?_
                    refine g_istore_n F (lv' := [(3, vI (n + 0)), (0, .ref (q 30)), (1, vI x), (2, vI k), (4, vI r)]) rfl (by decide) rfl d_X9_ends_93 ?_
                    refine g_iinc F (lv' := [(4, vI (r + 1)), (3, vI (n + 0)), (0, .ref (q 30)), (1, vI x), (2, vI k)]) 4 rfl rfl (by decide) rfl d_X9_ends_94 ?_
                    refine g_goto F d_X9_ends_97 ?_
                    have hn2 : (n + 0) = smF (pEndsM re x k) (r + 1).toNat := by
                      rw [sm_toNat hr.1, ← hn]
                      unfold pEndsM srM
                      first
                        | (rw [if_neg (fun z => h44 z.1), Int.add_zero]; done)
                        | (exfalso; omega)
                        | (rw [if_pos (show re x r 1 < 8 by omega), if_pos ⟨h44, by omega⟩]; done)
                        | (rw [if_pos (show re x r 1 < 8 by omega), if_neg (fun z => by have := z.2; omega)]; done)
                        | (rw [if_neg (show ¬ re x r 1 < 8 by omega), if_pos (show re x r 1 = 8 by omega), if_pos ⟨h44, by omega⟩]; done)
                        | (rw [if_neg (show ¬ re x r 1 < 8 by omega), if_pos (show re x r 1 = 8 by omega), if_neg (fun z => by have := z.2; omega)]; done)
                        | (rw [if_neg (show ¬ re x r 1 < 8 by omega), if_neg (show ¬ re x r 1 = 8 by omega), if_pos ⟨h44, by omega⟩]; done)
                        | (rw [if_neg (show ¬ re x r 1 < 8 by omega), if_neg (show ¬ re x r 1 = 8 by omega), if_neg (fun z => by have := z.2; omega)]; done)
                    have hm9 : Sm erows σ τ5 := by first | exact hm | exact hm.trans (wideE hm5)
                    refine G_sub (ks := [2, 3, 4, 1, 0]) rfl ?_
                    exact ih29 (n + 0) (r + 1) τ5 (by omega) hn2 hm9 (by omega)
                  · refine g_iconst F d_X9_ends_87 ?_
                    refine g_goto F d_X9_ends_88 ?_
                    refine g_iadd F d_X9_ends_92 ?_
                    refine g_istore_n F (lv' := [(3, vI (n + 1)), (0, .ref (q 30)), (1, vI x), (2, vI k), (4, vI r)]) rfl (by decide) rfl d_X9_ends_93 ?_
                    refine g_iinc F (lv' := [(4, vI (r + 1)), (3, vI (n + 1)), (0, .ref (q 30)), (1, vI x), (2, vI k)]) 4 rfl rfl (by decide) rfl d_X9_ends_94 ?_
                    refine g_goto F d_X9_ends_97 ?_
                    have hn2 : (n + 1) = smF (pEndsM re x k) (r + 1).toNat := by
                      rw [sm_toNat hr.1, ← hn]
                      unfold pEndsM srM
                      first
                        | (rw [if_neg (fun z => h44 z.1), Int.add_zero]; done)
                        | (exfalso; omega)
                        | (rw [if_pos (show re x r 1 < 8 by omega), if_pos ⟨h44, by omega⟩]; done)
                        | (rw [if_pos (show re x r 1 < 8 by omega), if_neg (fun z => by have := z.2; omega)]; done)
                        | (rw [if_neg (show ¬ re x r 1 < 8 by omega), if_pos (show re x r 1 = 8 by omega), if_pos ⟨h44, by omega⟩]; done)
                        | (rw [if_neg (show ¬ re x r 1 < 8 by omega), if_pos (show re x r 1 = 8 by omega), if_neg (fun z => by have := z.2; omega)]; done)
                        | (rw [if_neg (show ¬ re x r 1 < 8 by omega), if_neg (show ¬ re x r 1 = 8 by omega), if_pos ⟨h44, by omega⟩]; done)
                        | (rw [if_neg (show ¬ re x r 1 < 8 by omega), if_neg (show ¬ re x r 1 = 8 by omega), if_neg (fun z => by have := z.2; omega)]; done)
                    have hm9 : Sm erows σ τ5 := by first | exact hm | exact hm.trans (wideE hm5)
                    refine G_sub (ks := [2, 3, 4, 1, 0]) rfl ?_
                    exact ih29 (n + 1) (r + 1) τ5 (by omega) hn2 hm9 (by omega)
              · refine g_iconst F d_X9_ends_65 ?_
                refine g_goto F d_X9_ends_66 ?_
                refine g_iload_n F 2 rfl rfl d_X9_ends_83 ?_
                refine g_icmp_ne F d_X9_ends_84 ⟨by decide, by decide⟩ ⟨by omega, by omega⟩ (fun h84 => ?_) (fun h84 => ?_)
                · refine g_iconst F d_X9_ends_91 ?_
                  refine g_iadd F d_X9_ends_92 ?_
                  refine g_istore_n F (lv' := [(3, vI (n + 0)), (0, .ref (q 30)), (1, vI x), (2, vI k), (4, vI r)]) rfl (by decide) rfl d_X9_ends_93 ?_
                  refine g_iinc F (lv' := [(4, vI (r + 1)), (3, vI (n + 0)), (0, .ref (q 30)), (1, vI x), (2, vI k)]) 4 rfl rfl (by decide) rfl d_X9_ends_94 ?_
                  refine g_goto F d_X9_ends_97 ?_
                  have hn2 : (n + 0) = smF (pEndsM re x k) (r + 1).toNat := by
                    rw [sm_toNat hr.1, ← hn]
                    unfold pEndsM srM
                    first
                      | (rw [if_neg (fun z => h44 z.1), Int.add_zero]; done)
                      | (exfalso; omega)
                      | (rw [if_pos (show re x r 1 < 8 by omega), if_pos ⟨h44, by omega⟩]; done)
                      | (rw [if_pos (show re x r 1 < 8 by omega), if_neg (fun z => by have := z.2; omega)]; done)
                      | (rw [if_neg (show ¬ re x r 1 < 8 by omega), if_pos (show re x r 1 = 8 by omega), if_pos ⟨h44, by omega⟩]; done)
                      | (rw [if_neg (show ¬ re x r 1 < 8 by omega), if_pos (show re x r 1 = 8 by omega), if_neg (fun z => by have := z.2; omega)]; done)
                      | (rw [if_neg (show ¬ re x r 1 < 8 by omega), if_neg (show ¬ re x r 1 = 8 by omega), if_pos ⟨h44, by omega⟩]; done)
                      | (rw [if_neg (show ¬ re x r 1 < 8 by omega), if_neg (show ¬ re x r 1 = 8 by omega), if_neg (fun z => by have := z.2; omega)]; done)
                  have hm9 : Sm erows σ τ5 := by first | exact hm | exact hm.trans (wideE hm5)
                  refine G_sub (ks := [2, 3, 4, 1, 0]) rfl ?_
                  exact ih29 (n + 0) (r + 1) τ5 (by omega) hn2 hm9 (by omega)
                · refine g_iconst F d_X9_ends_87 ?_
                  refine g_goto F d_X9_ends_88 ?_
                  refine g_iadd F d_X9_ends_92 ?_
                  refine g_istore_n F (lv' := [(3, vI (n + 1)), (0, .ref (q 30)), (1, vI x), (2, vI k), (4, vI r)]) rfl (by decide) rfl d_X9_ends_93 ?_
                  refine g_iinc F (lv' := [(4, vI (r + 1)), (3, vI (n + 1)), (0, .ref (q 30)), (1, vI x), (2, vI k)]) 4 rfl rfl (by decide) rfl d_X9_ends_94 ?_
                  refine g_goto F d_X9_ends_97 ?_
                  have hn2 : (n + 1) = smF (pEndsM re x k) (r + 1).toNat := by
                    rw [sm_toNat hr.1, ← hn]
                    unfold pEndsM srM
                    first
                      | (rw [if_neg (fun z => h44 z.1), Int.add_zero]; done)
                      | (exfalso; omega)
                      | (rw [if_pos (show re x r 1 < 8 by omega), if_pos ⟨h44, by omega⟩]; done)
                      | (rw [if_pos (show re x r 1 < 8 by omega), if_neg (fun z => by have := z.2; omega)]; done)
                      | (rw [if_neg (show ¬ re x r 1 < 8 by omega), if_pos (show re x r 1 = 8 by omega), if_pos ⟨h44, by omega⟩]; done)
                      | (rw [if_neg (show ¬ re x r 1 < 8 by omega), if_pos (show re x r 1 = 8 by omega), if_neg (fun z => by have := z.2; omega)]; done)
                      | (rw [if_neg (show ¬ re x r 1 < 8 by omega), if_neg (show ¬ re x r 1 = 8 by omega), if_pos ⟨h44, by omega⟩]; done)
                      | (rw [if_neg (show ¬ re x r 1 < 8 by omega), if_neg (show ¬ re x r 1 = 8 by omega), if_neg (fun z => by have := z.2; omega)]; done)
                  have hm9 : Sm erows σ τ5 := by first | exact hm | exact hm.trans (wideE hm5)
                  refine G_sub (ks := [2, 3, 4, 1, 0]) rfl ?_
                  exact ih29 (n + 1) (r + 1) τ5 (by omega) hn2 hm9 (by omega)
      refine G_sub (ks := [2, 3, 4, 1, 0]) rfl ?_
      exact loop29 _ 0 0 σ (by omega) rfl (Sm.refl _ _) (Nat.lt_succ_self _)
    · refine g_bipush F (by decide) d_X9_ends_21 ?_
      exact hQ d_X9_ends_23 (⟨by unfold vEndsM; rw [if_pos h4, if_neg h18], Sm.refl _ _⟩)
  · refine g_iconst F d_X9_ends_7 ?_
    exact hQ d_X9_ends_8 (⟨by unfold vEndsM; rw [if_neg h4], Sm.refl _ _⟩)
set_option maxHeartbeats 1000000 in
theorem c_X9_steps (l : Launch) (E : Ev) (q : Nat → Nat) (sh : List Shp) (σ : Sg) (hs : HsM sh) (x w : Int) (re rt : RF) (rx : rg x) (rw : rg w) (hR : MRun σ re rt) : CI l E yX9_steps cX9_steps 5 .int ({ frames := 7, cells := 0, slots := 0, locals := 160 } : Room) q sh σ [.ref (q 30), vI x, vI w] (fun z τ => z = vStepsM re rt x w ∧ Sm erows σ τ) := by
  have rx1 := rx.1
  have rx2 := rx.2
  have rw1 := rw.1
  have rw2 := rw.2
  refine CI_of (own := RX9) (by decide) rfl (Nat.le_of_ble_eq_true rfl) (fun X Q F hQ => ?_)
  show G X E 5 q sh σ 0 0 Q 0 [(0, .ref (q 30)), (1, vI x), (2, vI w)] []
  refine g_iload_n F 1 rfl rfl d_X9_steps_0 ?_
  refine g_Si F (own := RX9) (c_X9_isFunction l E q sh σ x ⟨by omega, by omega⟩) k_X9_99 [] d_X9_steps_1 ⟨rfl, rfl, by decide, by decide⟩ ⟨Nat.zero_le _, Nat.zero_le _⟩ rfl (Nat.le_of_ble_eq_true rfl) ?_
  rintro _ _ ⟨rfl, rfl⟩
  refine g_b_ne F d_X9_steps_4 (fun h4 => ?_) (fun h4 => ?_)
  · refine g_iload_n F 2 rfl rfl d_X9_steps_9 ?_
    refine g_Si F (own := RX9) (c_X9_isWay l E q sh σ w ⟨by omega, by omega⟩) k_X9_203 [] d_X9_steps_10 ⟨rfl, rfl, by decide, by decide⟩ ⟨Nat.zero_le _, Nat.zero_le _⟩ rfl (Nat.le_of_ble_eq_true rfl) ?_
    rintro _ _ ⟨rfl, rfl⟩
    refine g_b_ne F d_X9_steps_13 (fun h13 => ?_) (fun h13 => ?_)
    · have t2 := stV1_in h4
      refine g_iconst F d_X9_steps_19 ?_
      refine g_istore_n F (lv' := [(3, vI 0), (0, .ref (q 30)), (1, vI x), (2, vI w)]) rfl (by decide) rfl d_X9_steps_20 ?_
      refine g_iconst F d_X9_steps_21 ?_
      refine g_istore F (lv' := [(4, vI 0), (3, vI 0), (0, .ref (q 30)), (1, vI x), (2, vI w)]) (by decide) rfl d_X9_steps_22 ?_
      have loop24 : ∀ (nn : Nat) (n : Int) (r : Int) (τ : Sg), (0 ≤ r ∧ r ≤ stV 1 x) → (n = smF (pStepsM re rt x w) r.toNat) → (Sm erows σ τ) → (stV 1 x - r).toNat < nn → G X E 5 q sh τ 0 0 Q 24 [(0, .ref (q 30)), (1, vI x), (2, vI w), (3, vI n), (4, vI r)] [] := by
        intro n24
        induction n24 with
        | zero => intro n r τ hr hn hm hm24; exact absurd hm24 (Nat.not_lt_zero _)
        | succ n24 ih24 =>
          intro n r τ hr hn hm hm24
          refine g_iload F 4 rfl d_X9_steps_24 ?_
          refine g_iload_n F 1 rfl rfl d_X9_steps_26 ?_
          refine g_Si F (own := RX9) (c_X9_rowsOf l E q sh τ x (by omega)) k_X9_200 [vI r] d_X9_steps_27 ⟨rfl, rfl, by decide, by decide⟩ ⟨Nat.zero_le _, Nat.zero_le _⟩ rfl (Nat.le_of_ble_eq_true rfl) ?_
          rintro _ _ ⟨rfl, rfl⟩
          refine g_icmp_ge F d_X9_steps_30 ⟨by omega, by omega⟩ ⟨by omega, by omega⟩ (fun h30 => ?_) (fun h30 => ?_)
          · refine g_iload_n F 3 rfl rfl d_X9_steps_80 ?_
            exact hQ d_X9_steps_81 (⟨by unfold vStepsM; rw [if_pos h4, if_pos h13, hn, show r = stV 1 x by omega], hm⟩)
          · have hin : inRun x r 1 := ⟨h4, by omega, by decide, by decide⟩
            have hin2 : inRun x r w := ⟨h4, by omega, h13⟩
            have hb1 := (hR.2.1 x r 1 hin).1
            have hb2 := (hR.2.1 x r w hin2).2
            have hR1 := hR.move hm
            obtain ⟨J5, K5, nv5, k05, js5, fin5⟩ := hR1.get hin
            refine g_iload_n F 1 rfl rfl d_X9_steps_33 ?_
            refine g_iload F 4 rfl d_X9_steps_34 ?_
            refine g_Si F (own := RX9) (c_X9_areNumbers l E q sh τ x r h4 (by omega)) k_X9_211 [] d_X9_steps_36 ⟨rfl, rfl, by decide, by decide⟩ ⟨Nat.zero_le _, Nat.zero_le _⟩ rfl (Nat.le_of_ble_eq_true rfl) ?_
            rintro _ _ ⟨rfl, rfl⟩
            refine g_b_eq F d_X9_steps_39 (fun h39 => ?_) (fun h39 => ?_)
            · refine g_iinc F (lv' := [(4, vI (r + 1)), (0, .ref (q 30)), (1, vI x), (2, vI w), (3, vI n)]) 4 rfl rfl (by decide) rfl d_X9_steps_74 ?_
              refine g_goto F d_X9_steps_77 ?_
              have hn2 : n = smF (pStepsM re rt x w) (r + 1).toNat := by
                rw [sm_toNat hr.1, ← hn]
                unfold pStepsM
                first
                  | (rw [if_neg (fun z => h39 z.1), Int.add_zero]; done)
                  | (rw [if_pos ⟨h39, by omega⟩]; done)
                  | (rw [if_neg (fun z => by have z2 := z.2; omega), Int.add_zero]; done)
              have hm9 : Sm erows σ τ := by first | exact hm | exact (hm.trans (wideE hm5)).trans (wideE hm6) | exact hm.trans (wideE hm5)
              refine G_sub (ks := [1, 2, 3, 4, 0]) rfl ?_
              exact ih24 n (r + 1) τ (by omega) hn2 hm9 (by omega)
            · refine g_aload_n F 0 rfl rfl d_X9_steps_42 ?_
              refine g_iload_n F 1 rfl rfl d_X9_steps_43 ?_
              refine g_iload F 4 rfl d_X9_steps_44 ?_
              refine g_iconst F d_X9_steps_46 ?_
              refine g_Vv F (own := RX9) (c_X9_runIt l E q sh τ hs x r 1 J5 K5 h4 (by omega) (by decide) hR1.1 nv5 k05 js5) k_X9_206 (hsM_30 hs) rfl rfl [] d_X9_steps_47 ⟨rfl, rfl, by decide, by decide⟩ ⟨Nat.zero_le _, Nat.zero_le _⟩ rfl (Nat.le_of_ble_eq_true rfl) ?_
              intro τ5 hz5
              obtain ⟨⟨kk5, hj5⟩, h05, hm5⟩ := hz5
              obtain ⟨e205, e195⟩ := fin5 kk5 τ5 hj5 h05
              clear hj5
              refine g_aload_n F 0 rfl rfl d_X9_steps_50 ?_
              refine g_getI F 20 f_X9_161 d_X9_steps_51 (hsM_30 hs) rfl rfl ?_
              refine G_top (b := re x r 1) (e205) ?_
              refine g_bipush F (by decide) d_X9_steps_54 ?_
              refine g_icmp_ge F d_X9_steps_56 ⟨by omega, by omega⟩ ⟨by decide, by decide⟩ (fun h56 => ?_) (fun h56 => ?_)
              · refine g_iinc F (lv' := [(4, vI (r + 1)), (0, .ref (q 30)), (1, vI x), (2, vI w), (3, vI n)]) 4 rfl rfl (by decide) rfl d_X9_steps_74 ?_
                refine g_goto F d_X9_steps_77 ?_
                have hn2 : n = smF (pStepsM re rt x w) (r + 1).toNat := by
                  rw [sm_toNat hr.1, ← hn]
                  unfold pStepsM
                  first
                    | (rw [if_neg (fun z => h39 z.1), Int.add_zero]; done)
                    | (rw [if_pos ⟨h39, by omega⟩]; done)
                    | (rw [if_neg (fun z => by have z2 := z.2; omega), Int.add_zero]; done)
                have hm9 : Sm erows σ τ5 := by first | exact hm | exact (hm.trans (wideE hm5)).trans (wideE hm6) | exact hm.trans (wideE hm5)
                refine G_sub (ks := [1, 2, 3, 4, 0]) rfl ?_
                exact ih24 n (r + 1) τ5 (by omega) hn2 hm9 (by omega)
              · have hR2 := hR.move (hm.trans (wideE hm5))
                obtain ⟨J6, K6, nv6, k06, js6, fin6⟩ := hR2.get hin2
                refine g_aload_n F 0 rfl rfl d_X9_steps_59 ?_
                refine g_iload_n F 1 rfl rfl d_X9_steps_60 ?_
                refine g_iload F 4 rfl d_X9_steps_61 ?_
                refine g_iload_n F 2 rfl rfl d_X9_steps_63 ?_
                refine g_Vv F (own := RX9) (c_X9_runIt l E q sh τ5 hs x r w J6 K6 h4 (by omega) h13 hR2.1 nv6 k06 js6) k_X9_206 (hsM_30 hs) rfl rfl [] d_X9_steps_64 ⟨rfl, rfl, by decide, by decide⟩ ⟨Nat.zero_le _, Nat.zero_le _⟩ rfl (Nat.le_of_ble_eq_true rfl) ?_
                intro τ6 hz6
                obtain ⟨⟨kk6, hj6⟩, h06, hm6⟩ := hz6
                obtain ⟨e206, e196⟩ := fin6 kk6 τ6 hj6 h06
                clear hj6
                refine g_iload_n F 3 rfl rfl d_X9_steps_67 ?_
                refine g_aload_n F 0 rfl rfl d_X9_steps_68 ?_
                refine g_getI F 19 f_X9_158 d_X9_steps_69 (hsM_30 hs) rfl rfl ?_
                refine G_top (b := rt x r w) (e196) ?_
                refine g_iadd F d_X9_steps_72 ?_
                refine g_istore_n F (lv' := [(3, vI (n + (rt x r w))), (0, .ref (q 30)), (1, vI x), (2, vI w), (4, vI r)]) rfl (by decide) rfl d_X9_steps_73 ?_
                refine g_iinc F (lv' := [(4, vI (r + 1)), (3, vI (n + (rt x r w))), (0, .ref (q 30)), (1, vI x), (2, vI w)]) 4 rfl rfl (by decide) rfl d_X9_steps_74 ?_
                refine g_goto F d_X9_steps_77 ?_
                have hn2 : (n + (rt x r w)) = smF (pStepsM re rt x w) (r + 1).toNat := by
                  rw [sm_toNat hr.1, ← hn]
                  unfold pStepsM
                  first
                    | (rw [if_neg (fun z => h39 z.1), Int.add_zero]; done)
                    | (rw [if_pos ⟨h39, by omega⟩]; done)
                    | (rw [if_neg (fun z => by have z2 := z.2; omega), Int.add_zero]; done)
                have hm9 : Sm erows σ τ6 := by first | exact hm | exact (hm.trans (wideE hm5)).trans (wideE hm6) | exact hm.trans (wideE hm5)
                refine G_sub (ks := [2, 3, 4, 1, 0]) rfl ?_
                exact ih24 (n + (rt x r w)) (r + 1) τ6 (by omega) hn2 hm9 (by omega)
      refine G_sub (ks := [2, 3, 4, 1, 0]) rfl ?_
      exact loop24 _ 0 0 σ (by omega) rfl (Sm.refl _ _) (Nat.lt_succ_self _)
    · refine g_bipush F (by decide) d_X9_steps_16 ?_
      exact hQ d_X9_steps_18 (⟨by unfold vStepsM; rw [if_pos h4, if_neg h13], Sm.refl _ _⟩)
  · refine g_iconst F d_X9_steps_7 ?_
    exact hQ d_X9_steps_8 (⟨by unfold vStepsM; rw [if_neg h4], Sm.refl _ _⟩)
set_option maxHeartbeats 1000000 in
theorem c_X9_unlike (l : Launch) (E : Ev) (q : Nat → Nat) (sh : List Shp) (σ : Sg) (hs : HsM sh) (x w o k : Int) (re rt : RF) (rx : rg x) (rw : rg w) (ro : rg o) (rk : rg k) (hR : MRun σ re rt) : CI l E yX9_unlike cX9_unlike 9 .int ({ frames := 7, cells := 0, slots := 0, locals := 160 } : Room) q sh σ [.ref (q 30), vI x, vI w, vI o, vI k] (fun z τ => z = vUn re x w o k ∧ Sm erows σ τ) := by
  have rx1 := rx.1
  have rx2 := rx.2
  have rw1 := rw.1
  have rw2 := rw.2
  have ro1 := ro.1
  have ro2 := ro.2
  have rk1 := rk.1
  have rk2 := rk.2
  refine CI_of (own := RX9) (by decide) rfl (Nat.le_of_ble_eq_true rfl) (fun X Q F hQ => ?_)
  show G X E 9 q sh σ 0 0 Q 0 [(0, .ref (q 30)), (1, vI x), (2, vI w), (3, vI o), (4, vI k)] []
  refine g_iload_n F 1 rfl rfl d_X9_unlike_0 ?_
  refine g_Si F (own := RX9) (c_X9_isFunction l E q sh σ x ⟨by omega, by omega⟩) k_X9_99 [] d_X9_unlike_1 ⟨rfl, rfl, by decide, by decide⟩ ⟨Nat.zero_le _, Nat.zero_le _⟩ rfl (Nat.le_of_ble_eq_true rfl) ?_
  rintro _ _ ⟨rfl, rfl⟩
  refine g_b_ne F d_X9_unlike_4 (fun h4 => ?_) (fun h4 => ?_)
  · refine g_iload_n F 2 rfl rfl d_X9_unlike_9 ?_
    refine g_Si F (own := RX9) (c_X9_isWay l E q sh σ w ⟨by omega, by omega⟩) k_X9_203 [] d_X9_unlike_10 ⟨rfl, rfl, by decide, by decide⟩ ⟨Nat.zero_le _, Nat.zero_le _⟩ rfl (Nat.le_of_ble_eq_true rfl) ?_
    rintro _ _ ⟨rfl, rfl⟩
    refine g_b_eq F d_X9_unlike_13 (fun h13 => ?_) (fun h13 => ?_)
    · refine g_bipush F (by decide) d_X9_unlike_34 ?_
      exact hQ d_X9_unlike_36 (⟨by unfold vUn; rw [if_pos h4, if_neg (by omega)], Sm.refl _ _⟩)
    · refine g_iload_n F 3 rfl rfl d_X9_unlike_16 ?_
      refine g_Si F (own := RX9) (c_X9_isWay l E q sh σ o ⟨by omega, by omega⟩) k_X9_203 [] d_X9_unlike_17 ⟨rfl, rfl, by decide, by decide⟩ ⟨Nat.zero_le _, Nat.zero_le _⟩ rfl (Nat.le_of_ble_eq_true rfl) ?_
      rintro _ _ ⟨rfl, rfl⟩
      refine g_b_eq F d_X9_unlike_20 (fun h20 => ?_) (fun h20 => ?_)
      · refine g_bipush F (by decide) d_X9_unlike_34 ?_
        exact hQ d_X9_unlike_36 (⟨by unfold vUn; rw [if_pos h4, if_neg (by omega)], Sm.refl _ _⟩)
      · refine g_iload F 4 rfl d_X9_unlike_23 ?_
        refine g_i2l F ⟨by omega, by omega⟩ d_X9_unlike_25 ?_
        refine g_lconst F (z := 0) rfl d_X9_unlike_26 ?_
        refine g_lconst F (z := 1) rfl d_X9_unlike_27 ?_
        refine g_Si F (own := RX9) (c_X9_in l E q sh σ k 0 1 rk ⟨by decide, by decide⟩ ⟨by decide, by decide⟩) k_X9_69 [] d_X9_unlike_28 ⟨rfl, rfl, by decide, by decide⟩ ⟨Nat.zero_le _, Nat.zero_le _⟩ rfl (Nat.le_of_ble_eq_true rfl) ?_
        rintro _ _ ⟨rfl, rfl⟩
        refine g_b_ne F d_X9_unlike_31 (fun h31 => ?_) (fun h31 => ?_)
        · have t2 := stV1_in h4
          refine g_iconst F d_X9_unlike_37 ?_
          refine g_istore F (lv' := [(5, vI 0), (0, .ref (q 30)), (1, vI x), (2, vI w), (3, vI o), (4, vI k)]) (by decide) rfl d_X9_unlike_38 ?_
          refine g_bipush F (by decide) d_X9_unlike_40 ?_
          refine g_istore F (lv' := [(6, vI ((-6))), (5, vI 0), (0, .ref (q 30)), (1, vI x), (2, vI w), (3, vI o), (4, vI k)]) (by decide) rfl d_X9_unlike_42 ?_
          refine g_iconst F d_X9_unlike_44 ?_
          refine g_istore F (lv' := [(7, vI 0), (6, vI ((-6))), (5, vI 0), (0, .ref (q 30)), (1, vI x), (2, vI w), (3, vI o), (4, vI k)]) (by decide) rfl d_X9_unlike_45 ?_
          have loop47 : ∀ (nn : Nat) (n : Int) (g : Int) (r : Int) (τ : Sg), (0 ≤ r ∧ r ≤ stV 1 x) → (n = smF (pUn re x w o) r.toNat) → (n = 0 → g = -6 ∧ fUn re x w o (stV 1 x - r).toNat r = fUn re x w o (stV 1 x).toNat 0) → (n ≠ 0 → g = fUn re x w o (stV 1 x).toNat 0) → (Sm erows σ τ) → (stV 1 x - r).toNat < nn → G X E 9 q sh τ 0 0 Q 47 [(0, .ref (q 30)), (1, vI x), (2, vI w), (3, vI o), (4, vI k), (5, vI n), (6, vI g), (7, vI r)] [] := by
            intro n47
            induction n47 with
            | zero => intro n g r τ hr hn h0 h1 hm hm47; exact absurd hm47 (Nat.not_lt_zero _)
            | succ n47 ih47 =>
              intro n g r τ hr hn h0 h1 hm hm47
              have hni := smUn_in re x w o r.toNat
              rw [← hn] at hni
              refine g_iload F 7 rfl d_X9_unlike_47 ?_
              refine g_iload_n F 1 rfl rfl d_X9_unlike_49 ?_
              refine g_Si F (own := RX9) (c_X9_rowsOf l E q sh τ x (by omega)) k_X9_200 [vI r] d_X9_unlike_50 ⟨rfl, rfl, by decide, by decide⟩ ⟨Nat.zero_le _, Nat.zero_le _⟩ rfl (Nat.le_of_ble_eq_true rfl) ?_
              rintro _ _ ⟨rfl, rfl⟩
              refine g_icmp_ge F d_X9_unlike_53 ⟨by omega, by omega⟩ ⟨by omega, by omega⟩ (fun h53 => ?_) (fun h53 => ?_)
              · refine g_iload F 4 rfl d_X9_unlike_126 ?_
                refine g_if_ne F d_X9_unlike_128 ⟨by omega, by omega⟩ (fun h128 => ?_) (fun h128 => ?_)
                · refine g_iload F 6 rfl d_X9_unlike_136 ?_
                  exact hQ d_X9_unlike_138 (⟨by unfold vUn; rw [if_pos h4, if_pos (by omega)]; first | (rw [if_neg (by omega), hn, show r = stV 1 x by omega]; done) | (rw [if_pos (by omega)]; exact un_last h0 h1 (by omega)), hm⟩)
                · refine g_iload F 5 rfl d_X9_unlike_131 ?_
                  refine g_goto F d_X9_unlike_133 ?_
                  exact hQ d_X9_unlike_138 (⟨by unfold vUn; rw [if_pos h4, if_pos (by omega)]; first | (rw [if_neg (by omega), hn, show r = stV 1 x by omega]; done) | (rw [if_pos (by omega)]; exact un_last h0 h1 (by omega)), hm⟩)
              · have hin : inRun x r w := ⟨h4, by omega, h13⟩
                have hin2 : inRun x r o := ⟨h4, by omega, h20⟩
                have hb1 := (hR.2.1 x r w hin).1
                have hb2 := (hR.2.1 x r o hin2).1
                have hR1 := hR.move hm
                obtain ⟨J5, K5, nv5, k05, js5, fin5⟩ := hR1.get hin
                refine g_aload_n F 0 rfl rfl d_X9_unlike_56 ?_
                refine g_iload_n F 1 rfl rfl d_X9_unlike_57 ?_
                refine g_iload F 7 rfl d_X9_unlike_58 ?_
                refine g_iload_n F 2 rfl rfl d_X9_unlike_60 ?_
                refine g_Vv F (own := RX9) (c_X9_runIt l E q sh τ hs x r w J5 K5 h4 (by omega) h13 hR1.1 nv5 k05 js5) k_X9_206 (hsM_30 hs) rfl rfl [] d_X9_unlike_61 ⟨rfl, rfl, by decide, by decide⟩ ⟨Nat.zero_le _, Nat.zero_le _⟩ rfl (Nat.le_of_ble_eq_true rfl) ?_
                intro τ5 hz5
                obtain ⟨⟨kk5, hj5⟩, h05, hm5⟩ := hz5
                obtain ⟨e205, e195⟩ := fin5 kk5 τ5 hj5 h05
                clear hj5
                refine g_aload_n F 0 rfl rfl d_X9_unlike_64 ?_
                refine g_getI F 20 f_X9_161 d_X9_unlike_65 (hsM_30 hs) rfl rfl ?_
                refine G_top (b := re x r w) (e205) ?_
                refine g_istore F (lv' := [(8, vI (re x r w)), (0, .ref (q 30)), (1, vI x), (2, vI w), (3, vI o), (4, vI k), (5, vI n), (6, vI g), (7, vI r)]) (by decide) rfl d_X9_unlike_68 ?_
                have hR2 := hR.move (hm.trans (wideE hm5))
                obtain ⟨J6, K6, nv6, k06, js6, fin6⟩ := hR2.get hin2
                refine g_aload_n F 1 rfl rfl d_X9_unlike_70 ?_
                refine g_iload_n F 2 rfl rfl d_X9_unlike_71 ?_
                refine g_iload F 8 rfl d_X9_unlike_72 ?_
                refine g_iload_n F 4 rfl rfl d_X9_unlike_74 ?_
                refine g_Vv F (own := RX9) (c_X9_runIt l E q sh τ5 hs x r o J6 K6 h4 (by omega) h20 hR2.1 nv6 k06 js6) k_X9_206 (hsM_30 hs) rfl rfl [] d_X9_unlike_75 ⟨rfl, rfl, by decide, by decide⟩ ⟨Nat.zero_le _, Nat.zero_le _⟩ rfl (Nat.le_of_ble_eq_true rfl) ?_
                intro τ6 hz6
                obtain ⟨⟨kk6, hj6⟩, h06, hm6⟩ := hz6
                obtain ⟨e206, e196⟩ := fin6 kk6 τ6 hj6 h06
                clear hj6
                refine g_iload F 6 rfl d_X9_unlike_78 ?_
                refine g_if_ne F d_X9_unlike_80 ⟨by omega, by omega⟩ (fun h80 => ?_) (fun h80 => ?_)
                · refine g_iload F 7 rfl d_X9_unlike_97 ?_
                  refine g_istore F (lv' := [(6, vI g), (8, vI (re x r w)), (0, .ref (q 30)), (1, vI x), (2, vI w), (3, vI o), (4, vI k), (5, vI n), (7, vI r)]) (by decide) rfl d_X9_unlike_99 ?_
                  refine g_iload F 7 rfl d_X9_unlike_101 ?_
                  refine g_iload F 1 rfl d_X9_unlike_103 ?_
                  refine g_aload_n F 2 rfl rfl d_X9_unlike_105 ?_
                  refine g_getI F 20 f_X9_161 d_X9_unlike_106 (hsM_30 hs) rfl rfl ?_
                  refine G_top (b := re x r o) (e206) ?_
                  refine g_icmp_eq F d_X9_unlike_109 ⟨by omega, by omega⟩ ⟨by omega, by omega⟩ (fun h109 => ?_) (fun h109 => ?_)
                  · refine g_iconst F d_X9_unlike_116 ?_
                    refine g_iadd F d_X9_unlike_117 ?_
                    refine g_istore F (lv' := [(5, vI (n + 0)), (6, vI g), (8, vI (re x r w)), (0, .ref (q 30)), (1, vI x), (2, vI w), (3, vI o), (4, vI k), (7, vI r)]) (by decide) rfl d_X9_unlike_118 ?_
                    refine g_iinc F (lv' := [(7, vI (r + 1)), (5, vI (n + 0)), (6, vI g), (8, vI (re x r w)), (0, .ref (q 30)), (1, vI x), (2, vI w), (3, vI o), (4, vI k)]) 8 rfl rfl (by decide) rfl d_X9_unlike_120 ?_
                    refine g_goto F d_X9_unlike_123 ?_
                    have hn2 : (n + 0) = smF (pUn re x w o) (r + 1).toNat := by
                      rw [sm_toNat hr.1, ← hn]
                      unfold pUn
                      first
                        | (rw [if_pos h109]; done)
                        | (rw [if_neg h109]; done)
                    have hF : re x r w = re x r o → fUn re x w o (stV 1 x - (r + 1)).toNat (r + 1) = fUn re x w o (stV 1 x - r).toNat r := by
                      intro e
                      rw [show (stV 1 x - r).toNat = (stV 1 x - (r + 1)).toNat + 1 by omega, fUn, if_pos e]
                    have hG : ¬ re x r w = re x r o → fUn re x w o (stV 1 x - r).toNat r = r := by
                      intro e
                      rw [show (stV 1 x - r).toNat = (stV 1 x - (r + 1)).toNat + 1 by omega, fUn, if_neg e]
                    have h02 : (n + 0) = 0 → g = -6 ∧ fUn re x w o (stV 1 x - (r + 1)).toNat (r + 1) = fUn re x w o (stV 1 x).toNat 0 := by
                      intro z
                      first
                        | (exfalso; omega)
                        | exact ⟨(h0 (by omega)).1, (hF h109).trans (h0 (by omega)).2⟩
                    have h12 : (n + 0) ≠ 0 → g = fUn re x w o (stV 1 x).toNat 0 := by
                      intro z
                      first
                        | (exfalso; omega)
                        | exact h1 (by omega)
                        | exact (hG h109).symm.trans (h0 (by omega)).2
                    refine G_sub (ks := [4, 5, 6, 7, 8, 1, 2, 0]) rfl ?_
                    exact ih47 (n + 0) g (r + 1) τ6 (by omega) hn2 h02 h12 ((hm.trans (wideE hm5)).trans (wideE hm6)) (by omega)
                  · refine g_iconst F d_X9_unlike_112 ?_
                    refine g_goto F d_X9_unlike_113 ?_
                    refine g_iadd F d_X9_unlike_117 ?_
                    refine g_istore F (lv' := [(5, vI (n + 1)), (6, vI g), (8, vI (re x r w)), (0, .ref (q 30)), (1, vI x), (2, vI w), (3, vI o), (4, vI k), (7, vI r)]) (by decide) rfl d_X9_unlike_118 ?_
                    refine g_iinc F (lv' := [(7, vI (r + 1)), (5, vI (n + 1)), (6, vI g), (8, vI (re x r w)), (0, .ref (q 30)), (1, vI x), (2, vI w), (3, vI o), (4, vI k)]) 8 rfl rfl (by decide) rfl d_X9_unlike_120 ?_
                    refine g_goto F d_X9_unlike_123 ?_
                    have hn2 : (n + 1) = smF (pUn re x w o) (r + 1).toNat := by
                      rw [sm_toNat hr.1, ← hn]
                      unfold pUn
                      first
                        | (rw [if_pos h109]; done)
                        | (rw [if_neg h109]; done)
                    have hF : re x r w = re x r o → fUn re x w o (stV 1 x - (r + 1)).toNat (r + 1) = fUn re x w o (stV 1 x - r).toNat r := by
                      intro e
                      rw [show (stV 1 x - r).toNat = (stV 1 x - (r + 1)).toNat + 1 by omega, fUn, if_pos e]
                    have hG : ¬ re x r w = re x r o → fUn re x w o (stV 1 x - r).toNat r = r := by
                      intro e
                      rw [show (stV 1 x - r).toNat = (stV 1 x - (r + 1)).toNat + 1 by omega, fUn, if_neg e]
                    have h02 : (n + 1) = 0 → g = -6 ∧ fUn re x w o (stV 1 x - (r + 1)).toNat (r + 1) = fUn re x w o (stV 1 x).toNat 0 := by
                      intro z
                      first
                        | (exfalso; omega)
                        | exact ⟨(h0 (by omega)).1, (hF h109).trans (h0 (by omega)).2⟩
                    have h12 : (n + 1) ≠ 0 → g = fUn re x w o (stV 1 x).toNat 0 := by
                      intro z
                      first
                        | (exfalso; omega)
                        | exact h1 (by omega)
                        | exact (hG h109).symm.trans (h0 (by omega)).2
                    refine G_sub (ks := [4, 5, 6, 7, 8, 1, 2, 0]) rfl ?_
                    exact ih47 (n + 1) g (r + 1) τ6 (by omega) hn2 h02 h12 ((hm.trans (wideE hm5)).trans (wideE hm6)) (by omega)
                · refine g_iload F 0 rfl d_X9_unlike_83 ?_
                  refine g_aload_n F 1 rfl rfl d_X9_unlike_85 ?_
                  refine g_getI F 20 f_X9_161 d_X9_unlike_86 (hsM_30 hs) rfl rfl ?_
                  refine G_top (b := re x r o) (e206) ?_
                  refine g_icmp_eq F d_X9_unlike_89 ⟨by omega, by omega⟩ ⟨by omega, by omega⟩ (fun h89 => ?_) (fun h89 => ?_)
                  · refine g_iload F 7 rfl d_X9_unlike_97 ?_
                    refine g_istore F (lv' := [(6, vI g), (8, vI (re x r w)), (0, .ref (q 30)), (1, vI x), (2, vI w), (3, vI o), (4, vI k), (5, vI n), (7, vI r)]) (by decide) rfl d_X9_unlike_99 ?_
                    refine g_iload F 7 rfl d_X9_unlike_101 ?_
                    refine g_iload F 1 rfl d_X9_unlike_103 ?_
                    refine g_aload_n F 2 rfl rfl d_X9_unlike_105 ?_
                    refine g_getI F 20 f_X9_161 d_X9_unlike_106 (hsM_30 hs) rfl rfl ?_
                    refine G_top (b := re x r o) (e206) ?_
                    refine g_icmp_eq F d_X9_unlike_109 ⟨by omega, by omega⟩ ⟨by omega, by omega⟩ (fun h109 => ?_) (fun h109 => ?_)
                    · refine g_iconst F d_X9_unlike_116 ?_
                      refine g_iadd F d_X9_unlike_117 ?_
                      refine g_istore F (lv' := [(5, vI (n + 0)), (6, vI g), (8, vI (re x r w)), (0, .ref (q 30)), (1, vI x), (2, vI w), (3, vI o), (4, vI k), (7, vI r)]) (by decide) rfl d_X9_unlike_118 ?_
                      refine g_iinc F (lv' := [(7, vI (r + 1)), (5, vI (n + 0)), (6, vI g), (8, vI (re x r w)), (0, .ref (q 30)), (1, vI x), (2, vI w), (3, vI o), (4, vI k)]) 8 rfl rfl (by decide) rfl d_X9_unlike_120 ?_
                      refine g_goto F d_X9_unlike_123 ?_
                      have hn2 : (n + 0) = smF (pUn re x w o) (r + 1).toNat := by
                        rw [sm_toNat hr.1, ← hn]
                        unfold pUn
                        first
                          | (rw [if_pos h109]; done)
                          | (rw [if_neg h109]; done)
                      have hF : re x r w = re x r o → fUn re x w o (stV 1 x - (r + 1)).toNat (r + 1) = fUn re x w o (stV 1 x - r).toNat r := by
                        intro e
                        rw [show (stV 1 x - r).toNat = (stV 1 x - (r + 1)).toNat + 1 by omega, fUn, if_pos e]
                      have hG : ¬ re x r w = re x r o → fUn re x w o (stV 1 x - r).toNat r = r := by
                        intro e
                        rw [show (stV 1 x - r).toNat = (stV 1 x - (r + 1)).toNat + 1 by omega, fUn, if_neg e]
                      have h02 : (n + 0) = 0 → g = -6 ∧ fUn re x w o (stV 1 x - (r + 1)).toNat (r + 1) = fUn re x w o (stV 1 x).toNat 0 := by
                        intro z
                        first
                          | (exfalso; omega)
                          | exact ⟨(h0 (by omega)).1, (hF h109).trans (h0 (by omega)).2⟩
                      have h12 : (n + 0) ≠ 0 → g = fUn re x w o (stV 1 x).toNat 0 := by
                        intro z
                        first
                          | (exfalso; omega)
                          | exact h1 (by omega)
                          | exact (hG h109).symm.trans (h0 (by omega)).2
                      refine G_sub (ks := [4, 5, 6, 7, 8, 1, 2, 0]) rfl ?_
                      exact ih47 (n + 0) g (r + 1) τ6 (by omega) hn2 h02 h12 ((hm.trans (wideE hm5)).trans (wideE hm6)) (by omega)
                    · refine g_iconst F d_X9_unlike_112 ?_
                      refine g_goto F d_X9_unlike_113 ?_
                      refine g_iadd F d_X9_unlike_117 ?_
                      refine g_istore F (lv' := [(5, vI (n + 1)), (6, vI g), (8, vI (re x r w)), (0, .ref (q 30)), (1, vI x), (2, vI w), (3, vI o), (4, vI k), (7, vI r)]) (by decide) rfl d_X9_unlike_118 ?_
                      refine g_iinc F (lv' := [(7, vI (r + 1)), (5, vI (n + 1)), (6, vI g), (8, vI (re x r w)), (0, .ref (q 30)), (1, vI x), (2, vI w), (3, vI o), (4, vI k)]) 8 rfl rfl (by decide) rfl d_X9_unlike_120 ?_
                      refine g_goto F d_X9_unlike_123 ?_
                      have hn2 : (n + 1) = smF (pUn re x w o) (r + 1).toNat := by
                        rw [sm_toNat hr.1, ← hn]
                        unfold pUn
                        first
                          | (rw [if_pos h109]; done)
                          | (rw [if_neg h109]; done)
                      have hF : re x r w = re x r o → fUn re x w o (stV 1 x - (r + 1)).toNat (r + 1) = fUn re x w o (stV 1 x - r).toNat r := by
                        intro e
                        rw [show (stV 1 x - r).toNat = (stV 1 x - (r + 1)).toNat + 1 by omega, fUn, if_pos e]
                      have hG : ¬ re x r w = re x r o → fUn re x w o (stV 1 x - r).toNat r = r := by
                        intro e
                        rw [show (stV 1 x - r).toNat = (stV 1 x - (r + 1)).toNat + 1 by omega, fUn, if_neg e]
                      have h02 : (n + 1) = 0 → g = -6 ∧ fUn re x w o (stV 1 x - (r + 1)).toNat (r + 1) = fUn re x w o (stV 1 x).toNat 0 := by
                        intro z
                        first
                          | (exfalso; omega)
                          | exact ⟨(h0 (by omega)).1, (hF h109).trans (h0 (by omega)).2⟩
                      have h12 : (n + 1) ≠ 0 → g = fUn re x w o (stV 1 x).toNat 0 := by
                        intro z
                        first
                          | (exfalso; omega)
                          | exact h1 (by omega)
                          | exact (hG h109).symm.trans (h0 (by omega)).2
                      refine G_sub (ks := [4, 5, 6, 7, 8, 1, 2, 0]) rfl ?_
                      exact ih47 (n + 1) g (r + 1) τ6 (by omega) hn2 h02 h12 ((hm.trans (wideE hm5)).trans (wideE hm6)) (by omega)
                  · refine g_iload F 8 rfl d_X9_unlike_92 ?_
                    refine g_goto F d_X9_unlike_94 ?_
                    refine g_istore F (lv' := [(6, vI r), (8, vI (re x r w)), (0, .ref (q 30)), (1, vI x), (2, vI w), (3, vI o), (4, vI k), (5, vI n), (7, vI r)]) (by decide) rfl d_X9_unlike_99 ?_
                    refine g_iload F 7 rfl d_X9_unlike_101 ?_
                    refine g_iload F 1 rfl d_X9_unlike_103 ?_
                    refine g_aload_n F 2 rfl rfl d_X9_unlike_105 ?_
                    refine g_getI F 20 f_X9_161 d_X9_unlike_106 (hsM_30 hs) rfl rfl ?_
                    refine G_top (b := re x r o) (e206) ?_
                    refine g_icmp_eq F d_X9_unlike_109 ⟨by omega, by omega⟩ ⟨by omega, by omega⟩ (fun h109 => ?_) (fun h109 => ?_)
                    · refine g_iconst F d_X9_unlike_116 ?_
                      refine g_iadd F d_X9_unlike_117 ?_
                      refine g_istore F (lv' := [(5, vI (n + 0)), (6, vI r), (8, vI (re x r w)), (0, .ref (q 30)), (1, vI x), (2, vI w), (3, vI o), (4, vI k), (7, vI r)]) (by decide) rfl d_X9_unlike_118 ?_
                      refine g_iinc F (lv' := [(7, vI (r + 1)), (5, vI (n + 0)), (6, vI r), (8, vI (re x r w)), (0, .ref (q 30)), (1, vI x), (2, vI w), (3, vI o), (4, vI k)]) 8 rfl rfl (by decide) rfl d_X9_unlike_120 ?_
                      refine g_goto F d_X9_unlike_123 ?_
                      have hn2 : (n + 0) = smF (pUn re x w o) (r + 1).toNat := by
                        rw [sm_toNat hr.1, ← hn]
                        unfold pUn
                        first
                          | (rw [if_pos h109]; done)
                          | (rw [if_neg h109]; done)
                      have hF : re x r w = re x r o → fUn re x w o (stV 1 x - (r + 1)).toNat (r + 1) = fUn re x w o (stV 1 x - r).toNat r := by
                        intro e
                        rw [show (stV 1 x - r).toNat = (stV 1 x - (r + 1)).toNat + 1 by omega, fUn, if_pos e]
                      have hG : ¬ re x r w = re x r o → fUn re x w o (stV 1 x - r).toNat r = r := by
                        intro e
                        rw [show (stV 1 x - r).toNat = (stV 1 x - (r + 1)).toNat + 1 by omega, fUn, if_neg e]
                      have h02 : (n + 0) = 0 → r = -6 ∧ fUn re x w o (stV 1 x - (r + 1)).toNat (r + 1) = fUn re x w o (stV 1 x).toNat 0 := by
                        intro z
                        first
                          | (exfalso; omega)
                          | exact ⟨(h0 (by omega)).1, (hF h109).trans (h0 (by omega)).2⟩
                      have h12 : (n + 0) ≠ 0 → r = fUn re x w o (stV 1 x).toNat 0 := by
                        intro z
                        first
                          | (exfalso; omega)
                          | exact h1 (by omega)
                          | exact (hG h109).symm.trans (h0 (by omega)).2
                      refine G_sub (ks := [4, 5, 6, 7, 8, 1, 2, 0]) rfl ?_
                      exact ih47 (n + 0) r (r + 1) τ6 (by omega) hn2 h02 h12 ((hm.trans (wideE hm5)).trans (wideE hm6)) (by omega)
                    · refine g_iconst F d_X9_unlike_112 ?_
                      refine g_goto F d_X9_unlike_113 ?_
                      refine g_iadd F d_X9_unlike_117 ?_
                      refine g_istore F (lv' := [(5, vI (n + 1)), (6, vI r), (8, vI (re x r w)), (0, .ref (q 30)), (1, vI x), (2, vI w), (3, vI o), (4, vI k), (7, vI r)]) (by decide) rfl d_X9_unlike_118 ?_
                      refine g_iinc F (lv' := [(7, vI (r + 1)), (5, vI (n + 1)), (6, vI r), (8, vI (re x r w)), (0, .ref (q 30)), (1, vI x), (2, vI w), (3, vI o), (4, vI k)]) 8 rfl rfl (by decide) rfl d_X9_unlike_120 ?_
                      refine g_goto F d_X9_unlike_123 ?_
                      have hn2 : (n + 1) = smF (pUn re x w o) (r + 1).toNat := by
                        rw [sm_toNat hr.1, ← hn]
                        unfold pUn
                        first
                          | (rw [if_pos h109]; done)
                          | (rw [if_neg h109]; done)
                      have hF : re x r w = re x r o → fUn re x w o (stV 1 x - (r + 1)).toNat (r + 1) = fUn re x w o (stV 1 x - r).toNat r := by
                        intro e
                        rw [show (stV 1 x - r).toNat = (stV 1 x - (r + 1)).toNat + 1 by omega, fUn, if_pos e]
                      have hG : ¬ re x r w = re x r o → fUn re x w o (stV 1 x - r).toNat r = r := by
                        intro e
                        rw [show (stV 1 x - r).toNat = (stV 1 x - (r + 1)).toNat + 1 by omega, fUn, if_neg e]
                      have h02 : (n + 1) = 0 → r = -6 ∧ fUn re x w o (stV 1 x - (r + 1)).toNat (r + 1) = fUn re x w o (stV 1 x).toNat 0 := by
                        intro z
                        first
                          | (exfalso; omega)
                          | exact ⟨(h0 (by omega)).1, (hF h109).trans (h0 (by omega)).2⟩
                      have h12 : (n + 1) ≠ 0 → r = fUn re x w o (stV 1 x).toNat 0 := by
                        intro z
                        first
                          | (exfalso; omega)
                          | exact h1 (by omega)
                          | exact (hG h109).symm.trans (h0 (by omega)).2
                      refine G_sub (ks := [4, 5, 6, 7, 8, 1, 2, 0]) rfl ?_
                      exact ih47 (n + 1) r (r + 1) τ6 (by omega) hn2 h02 h12 ((hm.trans (wideE hm5)).trans (wideE hm6)) (by omega)
          refine G_sub (ks := [3, 4, 5, 6, 7, 2, 1, 0]) rfl ?_
          exact loop47 _ 0 (-6) 0 σ (by omega) rfl (fun _ => ⟨rfl, by rw [Int.sub_zero]⟩) (fun z => absurd rfl z) (Sm.refl _ _) (Nat.lt_succ_self _)
        · refine g_bipush F (by decide) d_X9_unlike_34 ?_
          exact hQ d_X9_unlike_36 (⟨by unfold vUn; rw [if_pos h4, if_neg (by omega)], Sm.refl _ _⟩)
  · refine g_iconst F d_X9_unlike_7 ?_
    exact hQ d_X9_unlike_8 (⟨by unfold vUn; rw [if_neg h4], Sm.refl _ _⟩)
set_option maxHeartbeats 1000000 in
theorem c_X9_matters (l : Launch) (E : Ev) (q : Nat → Nat) (sh : List Shp) (σ : Sg) (hs : HsM sh) (x y : Int) (re rt : RF) (rx : rg x) (ry : rg y) (hR : MRun σ re rt) : CI l E yX9_matters cX9_matters 6 .int ({ frames := 7, cells := 0, slots := 0, locals := 160 } : Room) q sh σ [.ref (q 30), vI x, vI y] (fun z τ => z = vMatM re x y ∧ Sm erows σ τ) := by
  have rx1 := rx.1
  have rx2 := rx.2
  have ry1 := ry.1
  have ry2 := ry.2
  have hna := nA_in x
  refine CI_of (own := RX9) (by decide) rfl (Nat.le_of_ble_eq_true rfl) (fun X Q F hQ => ?_)
  show G X E 6 q sh σ 0 0 Q 0 [(0, .ref (q 30)), (1, vI x), (2, vI y)] []
  refine g_iload_n F 1 rfl rfl d_X9_matters_0 ?_
  refine g_iload_n F 2 rfl rfl d_X9_matters_1 ?_
  refine g_Si F (own := RX9) (c_X9_isOf l E q sh σ x y ⟨by omega, by omega⟩ ⟨by omega, by omega⟩) k_X9_142 [] d_X9_matters_2 ⟨rfl, rfl, by decide, by decide⟩ ⟨Nat.zero_le _, Nat.zero_le _⟩ rfl (Nat.le_of_ble_eq_true rfl) ?_
  rintro _ _ ⟨rfl, rfl⟩
  refine g_b_ne F d_X9_matters_5 (fun h5 => ?_) (fun h5 => ?_)
  · have h4 := h5.1
    have t2 := stV1_in h4
    refine g_iconst F d_X9_matters_10 ?_
    refine g_istore_n F (lv' := [(3, vI 1), (0, .ref (q 30)), (1, vI x), (2, vI y)]) rfl (by decide) rfl d_X9_matters_11 ?_
    refine g_iload_n F 2 rfl rfl d_X9_matters_12 ?_
    refine g_Si F (own := RX9) (c_X9_argumentsOf l E q sh σ x (by omega)) k_X9_85 [] d_X9_matters_13 ⟨rfl, rfl, by decide, by decide⟩ ⟨Nat.zero_le _, Nat.zero_le _⟩ rfl (Nat.le_of_ble_eq_true rfl) ?_
    rintro _ _ ⟨rfl, rfl⟩
    refine g_iconst F d_X9_matters_16 ?_
    refine g_isub F d_X9_matters_17 ?_
    refine g_istore F (lv' := [(4, vI ((nA x) - 1)), (3, vI 1), (0, .ref (q 30)), (1, vI x), (2, vI y)]) (by decide) rfl d_X9_matters_18 ?_
    have loop20 : ∀ (nn : Nat) (b : Int) (j : Int), (y ≤ j ∧ j ≤ nA x - 1) → (b = pw9 (nA x - 1 - j).toNat) → (j - y).toNat < nn → G X E 6 q sh σ 0 0 Q 20 [(0, .ref (q 30)), (1, vI x), (2, vI y), (3, vI b), (4, vI j)] [] := by
      intro n20
      induction n20 with
      | zero => intro b j hj hb hm20; exact absurd hm20 (Nat.not_lt_zero _)
      | succ n20 ih20 =>
        intro b j hj hb hm20
        refine g_iload F 4 rfl d_X9_matters_20 ?_
        refine g_iload_n F 2 rfl rfl d_X9_matters_22 ?_
        refine g_icmp_le F d_X9_matters_23 ⟨by omega, by omega⟩ ⟨by omega, by omega⟩ (fun h23 => ?_) (fun h23 => ?_)
        · have hbb : b = byM x y := by rw [hb, show j = y by omega]; rfl
          refine g_iconst F d_X9_matters_37 ?_
          refine g_istore F (lv' := [(4, vI 0), (0, .ref (q 30)), (1, vI x), (2, vI y), (3, vI b)]) (by decide) rfl d_X9_matters_38 ?_
          have loop40 : ∀ (nn : Nat) (r : Int) (τ : Sg), (0 ≤ r ∧ r ≤ stV 1 x) → (∀ i, 0 ≤ i → i < r → τ 48 i = re x i 1) → (Sm erows σ τ) → (stV 1 x - r).toNat < nn → G X E 6 q sh τ 0 0 Q 40 [(0, .ref (q 30)), (1, vI x), (2, vI y), (3, vI b), (4, vI r)] [] := by
            intro n40
            induction n40 with
            | zero => intro r τ hr he hm hm40; exact absurd hm40 (Nat.not_lt_zero _)
            | succ n40 ih40 =>
              intro r τ hr he hm hm40
              refine g_iload F 4 rfl d_X9_matters_40 ?_
              refine g_iload_n F 1 rfl rfl d_X9_matters_42 ?_
              refine g_Si F (own := RX9) (c_X9_rowsOf l E q sh τ x (by omega)) k_X9_200 [vI r] d_X9_matters_43 ⟨rfl, rfl, by decide, by decide⟩ ⟨Nat.zero_le _, Nat.zero_le _⟩ rfl (Nat.le_of_ble_eq_true rfl) ?_
              rintro _ _ ⟨rfl, rfl⟩
              refine g_icmp_ge F d_X9_matters_46 ⟨by omega, by omega⟩ ⟨by omega, by omega⟩ (fun h46 => ?_) (fun h46 => ?_)
              · refine g_iconst F d_X9_matters_74 ?_
                refine g_istore F (lv' := [(4, vI 0), (0, .ref (q 30)), (1, vI x), (2, vI y), (3, vI b)]) (by decide) rfl d_X9_matters_75 ?_
                have loop77 : ∀ (nn : Nat) (r2 : Int), (0 ≤ r2 ∧ r2 ≤ stV 1 x) → (fMatM re x y (stV 1 x - r2).toNat r2 = fMatM re x y (stV 1 x).toNat 0) → (stV 1 x - r2).toNat < nn → G X E 6 q sh τ 0 0 Q 77 [(0, .ref (q 30)), (1, vI x), (2, vI y), (3, vI b), (4, vI r2)] [] := by
                  intro n77
                  induction n77 with
                  | zero => intro r2 hr2 hf hm77; exact absurd hm77 (Nat.not_lt_zero _)
                  | succ n77 ih77 =>
                    intro r2 hr2 hf hm77
                    refine g_iload F 4 rfl d_X9_matters_77 ?_
                    refine g_iload_n F 1 rfl rfl d_X9_matters_79 ?_
                    refine g_Si F (own := RX9) (c_X9_rowsOf l E q sh τ x (by omega)) k_X9_200 [vI r2] d_X9_matters_80 ⟨rfl, rfl, by decide, by decide⟩ ⟨Nat.zero_le _, Nat.zero_le _⟩ rfl (Nat.le_of_ble_eq_true rfl) ?_
                    rintro _ _ ⟨rfl, rfl⟩
                    refine g_icmp_ge F d_X9_matters_83 ⟨by omega, by omega⟩ ⟨by omega, by omega⟩ (fun h83 => ?_) (fun h83 => ?_)
                    · refine g_iconst F d_X9_matters_146 ?_
                      exact hQ d_X9_matters_147 (⟨by unfold vMatM; rw [if_pos h5, ← hf, show (stV 1 x - r2).toNat = 0 by omega, fMatM], hm⟩)
                    · have hin2 : inRun x r2 1 := ⟨h4, by omega, by decide, by decide⟩
                      have hb2 := (hR.2.1 x r2 1 hin2).1
                      have htd := tdo_in x r2 y
                      refine g_iload_n F 1 rfl rfl d_X9_matters_86 ?_
                      refine g_iload F 4 rfl d_X9_matters_87 ?_
                      refine g_Si F (own := RX9) (c_X9_areNumbers l E q sh τ x r2 h4 (by omega)) k_X9_211 [] d_X9_matters_89 ⟨rfl, rfl, by decide, by decide⟩ ⟨Nat.zero_le _, Nat.zero_le _⟩ rfl (Nat.le_of_ble_eq_true rfl) ?_
                      rintro _ _ ⟨rfl, rfl⟩
                      refine g_b_eq F d_X9_matters_92 (fun h92 => ?_) (fun h92 => ?_)
                      · refine g_iconst F d_X9_matters_111 ?_
                        refine g_istore F (lv' := [(5, vI 0), (0, .ref (q 30)), (1, vI x), (2, vI y), (3, vI b), (4, vI r2)]) (by decide) rfl d_X9_matters_112 ?_
                        refine g_iload F 0 rfl d_X9_matters_114 ?_
                        refine g_if_eq F d_X9_matters_116 ⟨by decide, by decide⟩ (fun h116 => ?_) (fun h116 => ?_)
                        · refine g_iinc F (lv' := [(4, vI (r2 + 1)), (5, vI 0), (0, .ref (q 30)), (1, vI x), (2, vI y), (3, vI b)]) 5 rfl rfl (by decide) rfl d_X9_matters_140 ?_
                          refine g_goto F d_X9_matters_143 ?_
                          have hf2 : fMatM re x y (stV 1 x - (r2 + 1)).toNat (r2 + 1) = fMatM re x y (stV 1 x).toNat 0 := by
                            rw [← hf, show (stV 1 x - r2).toNat = (stV 1 x - (r2 + 1)).toNat + 1 by omega, fMatM]
                            first
                              | (exfalso; omega)
                              | (rw [if_neg (fun z => h92 z.1.1)]; done)
                              | (rw [if_neg (fun z => by have := z.1.2; omega)]; done)
                              | (rw [if_neg (fun z => z.2 h135)]; done)
                          refine G_sub (ks := [2, 3, 4, 5, 0]) rfl ?_
                          exact ih77 (r2 + 1) (by omega) hf2 (by omega)
                        · refine g_aload_n F 1 rfl rfl d_X9_matters_119 ?_
                          refine g_getR F f_X9_61 d_X9_matters_120 (hsM_30 hs) rfl ?_
                          refine g_iload F 5 rfl d_X9_matters_123 ?_
                          refine g_iaload F d_X9_matters_125 (hsM_48 hs) (by omega) (by omega) (by decide) ?_
                          refine G_top (b := re x r2 1) (he r2 (by omega) (by omega)) ?_
                          refine g_aload_n F 1 rfl rfl d_X9_matters_126 ?_
                          refine g_getR F f_X9_61 d_X9_matters_127 (hsM_30 hs) rfl ?_
                          refine g_iload F 5 rfl d_X9_matters_130 ?_
                          refine g_iload_n F 4 rfl rfl d_X9_matters_132 ?_
                          refine g_iadd F d_X9_matters_133 ?_
                          refine G_top (b := r2 + byM x y) (by rw [hbb]) ?_
                          refine g_iaload F d_X9_matters_134 (hsM_48 hs) (by omega) (by omega) (by decide) ?_
                          refine G_top (b := re x (r2 + byM x y) 1) (he _ (by omega) (by omega)) ?_
                          refine g_icmp_eq F d_X9_matters_135 ⟨by omega, by omega⟩ ⟨by omega, by omega⟩ (fun h135 => ?_) (fun h135 => ?_)
                          · refine g_iinc F (lv' := [(4, vI (r2 + 1)), (5, vI 0), (0, .ref (q 30)), (1, vI x), (2, vI y), (3, vI b)]) 5 rfl rfl (by decide) rfl d_X9_matters_140 ?_
                            refine g_goto F d_X9_matters_143 ?_
                            have hf2 : fMatM re x y (stV 1 x - (r2 + 1)).toNat (r2 + 1) = fMatM re x y (stV 1 x).toNat 0 := by
                              rw [← hf, show (stV 1 x - r2).toNat = (stV 1 x - (r2 + 1)).toNat + 1 by omega, fMatM]
                              first
                                | (exfalso; omega)
                                | (rw [if_neg (fun z => h92 z.1.1)]; done)
                                | (rw [if_neg (fun z => by have := z.1.2; omega)]; done)
                                | (rw [if_neg (fun z => z.2 h135)]; done)
                            refine G_sub (ks := [2, 3, 4, 5, 0]) rfl ?_
                            exact ih77 (r2 + 1) (by omega) hf2 (by omega)
                          · refine g_iconst F d_X9_matters_138 ?_
                            exact hQ d_X9_matters_139 (by first | (exfalso; omega) | exact ⟨by unfold vMatM; rw [if_pos h5, ← hf, show (stV 1 x - r2).toNat = (stV 1 x - r2 - 1).toNat + 1 by omega, fMatM, if_pos ⟨⟨h92, by omega⟩, h135⟩], hm⟩)
                      · refine g_iload_n F 1 rfl rfl d_X9_matters_95 ?_
                        refine g_iload F 4 rfl d_X9_matters_96 ?_
                        refine g_iload_n F 2 rfl rfl d_X9_matters_98 ?_
                        refine g_Si F (own := RX9) (c_X9_toldOne l E q sh τ x r2 y h4 (by omega) h5.2) k_X9_191 [] d_X9_matters_99 ⟨rfl, rfl, by decide, by decide⟩ ⟨Nat.zero_le _, Nat.zero_le _⟩ rfl (Nat.le_of_ble_eq_true rfl) ?_
                        rintro _ _ ⟨rfl, rfl⟩
                        refine g_bipush F (by decide) d_X9_matters_102 ?_
                        refine g_icmp_ge F d_X9_matters_104 ⟨by omega, by omega⟩ ⟨by decide, by decide⟩ (fun h104 => ?_) (fun h104 => ?_)
                        · refine g_iconst F d_X9_matters_111 ?_
                          refine g_istore F (lv' := [(5, vI 0), (0, .ref (q 30)), (1, vI x), (2, vI y), (3, vI b), (4, vI r2)]) (by decide) rfl d_X9_matters_112 ?_
                          refine g_iload F 0 rfl d_X9_matters_114 ?_
                          refine g_if_eq F d_X9_matters_116 ⟨by decide, by decide⟩ (fun h116 => ?_) (fun h116 => ?_)
                          · refine g_iinc F (lv' := [(4, vI (r2 + 1)), (5, vI 0), (0, .ref (q 30)), (1, vI x), (2, vI y), (3, vI b)]) 5 rfl rfl (by decide) rfl d_X9_matters_140 ?_
                            refine g_goto F d_X9_matters_143 ?_
                            have hf2 : fMatM re x y (stV 1 x - (r2 + 1)).toNat (r2 + 1) = fMatM re x y (stV 1 x).toNat 0 := by
                              rw [← hf, show (stV 1 x - r2).toNat = (stV 1 x - (r2 + 1)).toNat + 1 by omega, fMatM]
                              first
                                | (exfalso; omega)
                                | (rw [if_neg (fun z => h92 z.1.1)]; done)
                                | (rw [if_neg (fun z => by have := z.1.2; omega)]; done)
                                | (rw [if_neg (fun z => z.2 h135)]; done)
                            refine G_sub (ks := [2, 3, 4, 5, 0]) rfl ?_
                            exact ih77 (r2 + 1) (by omega) hf2 (by omega)
                          · refine g_aload_n F 1 rfl rfl d_X9_matters_119 ?_
                            refine g_getR F f_X9_61 d_X9_matters_120 (hsM_30 hs) rfl ?_
                            refine g_iload F 5 rfl d_X9_matters_123 ?_
                            refine g_iaload F d_X9_matters_125 (hsM_48 hs) (by omega) (by omega) (by decide) ?_
                            refine G_top (b := re x r2 1) (he r2 (by omega) (by omega)) ?_
                            refine g_aload_n F 1 rfl rfl d_X9_matters_126 ?_
                            refine g_getR F f_X9_61 d_X9_matters_127 (hsM_30 hs) rfl ?_
                            refine g_iload F 5 rfl d_X9_matters_130 ?_
                            refine g_iload_n F 4 rfl rfl d_X9_matters_132 ?_
                            refine g_iadd F d_X9_matters_133 ?_
                            refine G_top (b := r2 + byM x y) (by rw [hbb]) ?_
                            refine g_iaload F d_X9_matters_134 (hsM_48 hs) (by omega) (by omega) (by decide) ?_
                            refine G_top (b := re x (r2 + byM x y) 1) (he _ (by omega) (by omega)) ?_
                            refine g_icmp_eq F d_X9_matters_135 ⟨by omega, by omega⟩ ⟨by omega, by omega⟩ (fun h135 => ?_) (fun h135 => ?_)
                            · refine g_iinc F (lv' := [(4, vI (r2 + 1)), (5, vI 0), (0, .ref (q 30)), (1, vI x), (2, vI y), (3, vI b)]) 5 rfl rfl (by decide) rfl d_X9_matters_140 ?_
                              refine g_goto F d_X9_matters_143 ?_
                              have hf2 : fMatM re x y (stV 1 x - (r2 + 1)).toNat (r2 + 1) = fMatM re x y (stV 1 x).toNat 0 := by
                                rw [← hf, show (stV 1 x - r2).toNat = (stV 1 x - (r2 + 1)).toNat + 1 by omega, fMatM]
                                first
                                  | (exfalso; omega)
                                  | (rw [if_neg (fun z => h92 z.1.1)]; done)
                                  | (rw [if_neg (fun z => by have := z.1.2; omega)]; done)
                                  | (rw [if_neg (fun z => z.2 h135)]; done)
                              refine G_sub (ks := [2, 3, 4, 5, 0]) rfl ?_
                              exact ih77 (r2 + 1) (by omega) hf2 (by omega)
                            · refine g_iconst F d_X9_matters_138 ?_
                              exact hQ d_X9_matters_139 (by first | (exfalso; omega) | exact ⟨by unfold vMatM; rw [if_pos h5, ← hf, show (stV 1 x - r2).toNat = (stV 1 x - r2 - 1).toNat + 1 by omega, fMatM, if_pos ⟨⟨h92, by omega⟩, h135⟩], hm⟩)
                        · have hby := byM_in h4 h5.2 (r := r2) (by omega) (by omega)
                          have hin3 : inRun x (r2 + byM x y) 1 := ⟨h4, by omega, by decide, by decide⟩
                          have hb3 := (hR.2.1 x (r2 + byM x y) 1 hin3).1
                          refine g_iconst F d_X9_matters_107 ?_
                          refine g_goto F d_X9_matters_108 ?_
                          refine g_istore F (lv' := [(5, vI 1), (0, .ref (q 30)), (1, vI x), (2, vI y), (3, vI b), (4, vI r2)]) (by decide) rfl d_X9_matters_112 ?_
                          refine g_iload F 0 rfl d_X9_matters_114 ?_
                          refine g_if_eq F d_X9_matters_116 ⟨by decide, by decide⟩ (fun h116 => ?_) (fun h116 => ?_)
                          · refine g_iinc F (lv' := [(4, vI (r2 + 1)), (5, vI 1), (0, .ref (q 30)), (1, vI x), (2, vI y), (3, vI b)]) 5 rfl rfl (by decide) rfl d_X9_matters_140 ?_
                            refine g_goto F d_X9_matters_143 ?_
                            have hf2 : fMatM re x y (stV 1 x - (r2 + 1)).toNat (r2 + 1) = fMatM re x y (stV 1 x).toNat 0 := by
                              rw [← hf, show (stV 1 x - r2).toNat = (stV 1 x - (r2 + 1)).toNat + 1 by omega, fMatM]
                              first
                                | (exfalso; omega)
                                | (rw [if_neg (fun z => h92 z.1.1)]; done)
                                | (rw [if_neg (fun z => by have := z.1.2; omega)]; done)
                                | (rw [if_neg (fun z => z.2 h135)]; done)
                            refine G_sub (ks := [2, 3, 4, 5, 0]) rfl ?_
                            exact ih77 (r2 + 1) (by omega) hf2 (by omega)
                          · refine g_aload_n F 1 rfl rfl d_X9_matters_119 ?_
                            refine g_getR F f_X9_61 d_X9_matters_120 (hsM_30 hs) rfl ?_
                            refine g_iload F 5 rfl d_X9_matters_123 ?_
                            refine g_iaload F d_X9_matters_125 (hsM_48 hs) (by omega) (by omega) (by decide) ?_
                            refine G_top (b := re x r2 1) (he r2 (by omega) (by omega)) ?_
                            refine g_aload_n F 1 rfl rfl d_X9_matters_126 ?_
                            refine g_getR F f_X9_61 d_X9_matters_127 (hsM_30 hs) rfl ?_
                            refine g_iload F 5 rfl d_X9_matters_130 ?_
                            refine g_iload_n F 4 rfl rfl d_X9_matters_132 ?_
                            refine g_iadd F d_X9_matters_133 ?_
                            refine G_top (b := r2 + byM x y) (by rw [hbb]) ?_
                            refine g_iaload F d_X9_matters_134 (hsM_48 hs) (by omega) (by omega) (by decide) ?_
                            refine G_top (b := re x (r2 + byM x y) 1) (he _ (by omega) (by omega)) ?_
                            refine g_icmp_eq F d_X9_matters_135 ⟨by omega, by omega⟩ ⟨by omega, by omega⟩ (fun h135 => ?_) (fun h135 => ?_)
                            · refine g_iinc F (lv' := [(4, vI (r2 + 1)), (5, vI 1), (0, .ref (q 30)), (1, vI x), (2, vI y), (3, vI b)]) 5 rfl rfl (by decide) rfl d_X9_matters_140 ?_
                              refine g_goto F d_X9_matters_143 ?_
                              have hf2 : fMatM re x y (stV 1 x - (r2 + 1)).toNat (r2 + 1) = fMatM re x y (stV 1 x).toNat 0 := by
                                rw [← hf, show (stV 1 x - r2).toNat = (stV 1 x - (r2 + 1)).toNat + 1 by omega, fMatM]
                                first
                                  | (exfalso; omega)
                                  | (rw [if_neg (fun z => h92 z.1.1)]; done)
                                  | (rw [if_neg (fun z => by have := z.1.2; omega)]; done)
                                  | (rw [if_neg (fun z => z.2 h135)]; done)
                              refine G_sub (ks := [2, 3, 4, 5, 0]) rfl ?_
                              exact ih77 (r2 + 1) (by omega) hf2 (by omega)
                            · refine g_iconst F d_X9_matters_138 ?_
                              exact hQ d_X9_matters_139 (by first | (exfalso; omega) | exact ⟨by unfold vMatM; rw [if_pos h5, ← hf, show (stV 1 x - r2).toNat = (stV 1 x - r2 - 1).toNat + 1 by omega, fMatM, if_pos ⟨⟨h92, by omega⟩, h135⟩], hm⟩)
                refine G_sub (ks := [1, 2, 3, 4, 0]) rfl ?_
                exact loop77 _ 0 (by omega) (by rw [Int.sub_zero]) (Nat.lt_succ_self _)
              · have hin : inRun x r 1 := ⟨h4, by omega, by decide, by decide⟩
                have hb1 := (hR.2.1 x r 1 hin).1
                have hR1 := hR.move hm
                obtain ⟨J5, K5, nv5, k05, js5, fin5⟩ := hR1.get hin
                refine g_aload_n F 0 rfl rfl d_X9_matters_49 ?_
                refine g_iload_n F 1 rfl rfl d_X9_matters_50 ?_
                refine g_iload F 4 rfl d_X9_matters_51 ?_
                refine g_iconst F d_X9_matters_53 ?_
                refine g_Vv F (own := RX9) (c_X9_runIt l E q sh τ hs x r 1 J5 K5 h4 (by omega) (by decide) hR1.1 nv5 k05 js5) k_X9_206 (hsM_30 hs) rfl rfl [] d_X9_matters_54 ⟨rfl, rfl, by decide, by decide⟩ ⟨Nat.zero_le _, Nat.zero_le _⟩ rfl (Nat.le_of_ble_eq_true rfl) ?_
                intro τ5 hz5
                obtain ⟨⟨kk5, hj5⟩, h05, hm5⟩ := hz5
                obtain ⟨e205, e195⟩ := fin5 kk5 τ5 hj5 h05
                clear hj5
                refine g_aload_n F 0 rfl rfl d_X9_matters_57 ?_
                refine g_getR F f_X9_61 d_X9_matters_58 (hsM_30 hs) rfl ?_
                refine g_iload F 4 rfl d_X9_matters_61 ?_
                refine g_aload_n F 0 rfl rfl d_X9_matters_63 ?_
                refine g_getI F 20 f_X9_161 d_X9_matters_64 (hsM_30 hs) rfl rfl ?_
                refine G_top (b := re x r 1) (e205) ?_
                refine g_iastore F d_X9_matters_67 (hsM_48 hs) (by omega) (by omega) (by decide) ?_
                refine g_iinc F (lv' := [(4, vI (r + 1)), (0, .ref (q 30)), (1, vI x), (2, vI y), (3, vI b)]) 4 rfl rfl (by decide) rfl d_X9_matters_68 ?_
                refine g_goto F d_X9_matters_71 ?_
                have he2 : ∀ i, 0 ≤ i → i < r + 1 → (up τ5 48 r (re x r 1)) 48 i = re x i 1 := by
                  intro i a c
                  rw [up_at]
                  split
                  · rename_i e; rw [e]
                  · rw [hm5 48 (by decide)]; exact he i a (by omega)
                refine G_sub (ks := [1, 2, 3, 4, 0]) rfl ?_
                exact ih40 (r + 1) (up τ5 48 r (re x r 1)) (by omega) he2 ((hm.trans (wideE hm5)).up (by decide) _ _) (by omega)
          refine G_sub (ks := [1, 2, 3, 4, 0]) rfl ?_
          exact loop40 _ 0 σ (by omega) (fun i a c => by exfalso; omega) (Sm.refl _ _) (Nat.lt_succ_self _)
        · refine g_iload_n F 3 rfl rfl d_X9_matters_26 ?_
          refine g_bipush F (by decide) d_X9_matters_27 ?_
          refine g_imul F d_X9_matters_29 ?_
          refine g_istore_n F (lv' := [(3, vI (b * 9)), (0, .ref (q 30)), (1, vI x), (2, vI y), (4, vI j)]) rfl (by decide) rfl d_X9_matters_30 ?_
          refine g_iinc F (lv' := [(4, vI (j + (-1))), (3, vI (b * 9)), (0, .ref (q 30)), (1, vI x), (2, vI y)]) 4 rfl rfl (by decide) rfl d_X9_matters_31 ?_
          refine g_goto F d_X9_matters_34 ?_
          refine G_sub (ks := [2, 3, 4, 1, 0]) rfl ?_
          exact ih20 (b * 9) (j + (-1)) (by omega) (by rw [show (nA x - 1 - (j + (-1))).toNat = (nA x - 1 - j).toNat + 1 by omega, pw9, ← hb]) (by omega)
    refine G_sub (ks := [2, 3, 4, 1, 0]) rfl ?_
    exact loop20 _ 1 ((nA x) - 1) (by omega) (by rw [show (nA x - 1 - (nA x - 1)).toNat = 0 by omega]; rfl) (Nat.lt_succ_self _)
  · refine g_iconst F d_X9_matters_8 ?_
    exact hQ d_X9_matters_9 (⟨by unfold vMatM; rw [if_neg h5], Sm.refl _ _⟩)
