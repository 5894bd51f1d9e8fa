def wA (x : Int → Int) (N q w k : Int) : Prop := ∀ i, 0 ≤ i → i < k → q + i < N ∧ x (q + i) = wds (wo w + i)
theorem wM_A {x : Int → Int} {N q w : Int} : wM x N q w ↔ wA x N q w (wl w) ∧ ¬ (q + wl w < N ∧ 97 ≤ x (q + wl w) ∧ x (q + wl w) ≤ 122) := by
  have hw := wl_b w
  constructor
  · intro h
    exact ⟨fun i i0 i1 => ⟨by have := h.1; omega, h.2.1 i i0 i1⟩, h.2.2⟩
  · intro h
    refine ⟨?_, fun i i0 i1 => (h.1 i i0 i1).2, h.2⟩
    have := (h.1 (wl w - 1) (by omega) (by omega)).1
    omega
theorem lX6_isWord (d : Nat) {B : Int} {Z : zZ} {w q : Int} {g : sp_G} {Q : sp_P} (hR : mRep g Z) (hV : zV B Z) (hw : 0 ≤ w ∧ w ≤ 4) (eq : g 52 7 = q) (hq : 0 ≤ q ∧ q ≤ (zl Z)) (hQ1 : wM (zx Z) (zl Z) q w → Q (some (v_i 1)) g) (hQ0 : ¬ wM (zx Z) (zl Z) q w → Q (some (v_i 0)) g) :
    ∀ (n : Nat) (is k : Int), 0 ≤ k → k + n = wl w → (is = 0 ∨ is = 1) → (is = 1 → wA (zx Z) (zl Z) q w k) → (is = 0 → ¬ wA (zx Z) (zl Z) q w (wl w)) → sp_AW mX6_isWord (d + 1) 5 [some (v_r 52), some (v_i (wo w)), some (v_i (wl w)), some (v_i is), some (v_i k)] [] g Q := by
  have hx := zV_x hV
  have ht := hR.tx
  have wb := wl_b w
  have ob := wo_b hw
  intro n
  induction n with
  | zero =>
    intro is k h0 hn hi h1 h2
    have ek : k = wl w := by omega
    have bb := bA_b hV (k := q + wl w) (by omega)
    refine aw_iload dX6_isWord_5 rfl ?_
    refine aw_iload_n dX6_isWord_7 rfl ?_
    refine aw_icmp_ge (tg := 50) dX6_isWord_8 (by decide) (by omega) (fun h8 => ?_) (fun h8 => absurd h8 (by omega))
    refine aw_iload_n dX6_isWord_50 rfl ?_
    refine aw_if_eq (tg := 78) dX6_isWord_51 (by decide) (by omega) (fun h51 => ?_) (fun h51 => ?_)
    · refine aw_iconst dX6_isWord_78 ?_
      refine aw_zret dX6_isWord_79 rfl (by omega) ?_
      exact hQ0 (fun k => h2 (by omega) (wM_A.1 k).1)
    · refine aw_aload_n dX6_isWord_54 rfl ?_
      refine aw_aload_n dX6_isWord_55 rfl ?_
      refine aw_getI (kz := 7) dX6_isWord_56 flX6_118 rfl rfl rfl ?_
      refine aw_iload_n dX6_isWord_59 rfl ?_
      rw [eq]
      refine aw_iadd dX6_isWord_60 ?_
      refine aw_V1 dX6_isWord_61 okX6_byteAt lkX6_121 rfl rfl rfl ?_
      refine tX6_byteAt _ hR hV (by omega) ?_
      refine aw_bipush dX6_isWord_64 (by decide) ?_
      refine aw_bipush dX6_isWord_66 (by decide) ?_
      refine aw_S3 dX6_isWord_68 okX6_in lkX6_53 rfl ?_
      refine tX6_in _ (by omega) ?_
      refine aw_ifne_b (tg := 78) dX6_isWord_71 (by decide) (fun h71 => ?_) (fun h71 => ?_)
      · refine aw_iconst dX6_isWord_78 ?_
        refine aw_zret dX6_isWord_79 rfl (by omega) ?_
        exact hQ0 (fun k => (wM_A.1 k).2 ((bA_i (by omega)).1 h71))
      · refine aw_iconst dX6_isWord_74 ?_
        refine aw_goto (tg := 79) dX6_isWord_75 (by decide) ?_
        refine aw_zret dX6_isWord_79 rfl (by omega) ?_
        exact hQ1 (wM_A.2 ⟨by rw [← ek]; exact h1 (by omega), fun k => h71 ((bA_i (by omega)).2 k)⟩)
  | succ n ih =>
    intro is k h0 hn hi h1 h2
    have bb := bA_b hV (k := q + k) (by omega)
    have wv := (wds_b hw (i := k) (by omega)).1 (by omega)
    have e59 := ht.2.2 (wo w + k) (wo w + k) (by omega) (by omega) (by omega)
    have hbe : bA Z (q + k) = wds (wo w + k) → q + k < (zl Z) ∧ (zx Z) (q + k) = wds (wo w + k) := by
      intro e
      unfold bA at e
      by_cases c : q + k < (zl Z)
      · rw [if_pos c] at e
        exact ⟨c, e⟩
      · rw [if_neg c] at e
        omega
    have hbn : ¬ bA Z (q + k) = wds (wo w + k) → ¬ wA (zx Z) (zl Z) q w (wl w) := by
      intro e c
      have c1 := c k h0 (by omega)
      refine e ?_
      unfold bA
      rw [if_pos c1.1]
      exact c1.2
    refine aw_iload dX6_isWord_5 rfl ?_
    refine aw_iload_n dX6_isWord_7 rfl ?_
    refine aw_icmp_ge (tg := 50) dX6_isWord_8 (by decide) (by omega) (fun h8 => absurd h8 (by omega)) (fun h8 => ?_)
    refine aw_iload_n dX6_isWord_11 rfl ?_
    refine aw_if_eq (tg := 42) dX6_isWord_12 (by decide) (by omega) (fun h12 => ?_) (fun h12 => ?_)
    · refine aw_iconst dX6_isWord_42 ?_
      refine aw_istore_n (L2 := [_, _, _, _, _]) dX6_isWord_43 (by decide) rfl rfl ?_
      refine aw_iinc (L2 := [_, _, _, _, _]) dX6_isWord_44 rfl (by decide) rfl rfl ?_
      refine aw_goto (tg := 5) dX6_isWord_47 (by decide) ?_
      exact ih 0 (k + 1) (by omega) (by omega) (Or.inl rfl) (fun c => by omega) (fun _ => h2 (by omega))
    · refine aw_aload_n dX6_isWord_15 rfl ?_
      refine aw_aload_n dX6_isWord_16 rfl ?_
      refine aw_getI (kz := 7) dX6_isWord_17 flX6_118 rfl rfl rfl ?_
      refine aw_iload dX6_isWord_20 rfl ?_
      rw [eq]
      refine aw_iadd dX6_isWord_22 ?_
      refine aw_V1 dX6_isWord_23 okX6_byteAt lkX6_121 rfl rfl rfl ?_
      refine tX6_byteAt _ hR hV (by omega) ?_
      refine aw_aload_n dX6_isWord_26 rfl ?_
      refine aw_getR dX6_isWord_27 flX6_28 rfl rfl ?_
      refine aw_iload_n dX6_isWord_30 rfl ?_
      refine aw_iload dX6_isWord_31 rfl ?_
      refine aw_iadd dX6_isWord_33 ?_
      refine aw_cald dX6_isWord_34 rfl (by omega) ?_
      rw [e59]
      refine aw_icmp_ne (tg := 42) dX6_isWord_35 (by decide) (by omega) (fun h35 => ?_) (fun h35 => ?_)
      · refine aw_iconst dX6_isWord_42 ?_
        refine aw_istore_n (L2 := [_, _, _, _, _]) dX6_isWord_43 (by decide) rfl rfl ?_
        refine aw_iinc (L2 := [_, _, _, _, _]) dX6_isWord_44 rfl (by decide) rfl rfl ?_
        refine aw_goto (tg := 5) dX6_isWord_47 (by decide) ?_
        exact ih 0 (k + 1) (by omega) (by omega) (Or.inl rfl) (fun c => by omega) (fun _ => hbn h35)
      · refine aw_iconst dX6_isWord_38 ?_
        refine aw_goto (tg := 43) dX6_isWord_39 (by decide) ?_
        refine aw_istore_n (L2 := [_, _, _, _, _]) dX6_isWord_43 (by decide) rfl rfl ?_
        refine aw_iinc (L2 := [_, _, _, _, _]) dX6_isWord_44 rfl (by decide) rfl rfl ?_
        refine aw_goto (tg := 5) dX6_isWord_47 (by decide) ?_
        refine ih 1 (k + 1) (by omega) (by omega) (Or.inr rfl) (fun _ i i0 i1 => ?_) (fun c => by omega)
        by_cases c : i = k
        · rw [c]; exact hbe h35
        · exact h1 (by omega) i i0 (by omega)
theorem zX6_isWord (d : Nat) {B : Int} {Z : zZ} {w q : Int} {g : sp_G} {Q : sp_P} (hR : mRep g Z) (hV : zV B Z) (hw : 0 ≤ w ∧ w ≤ 4) (eq : g 52 7 = q) (hq : 0 ≤ q ∧ q ≤ (zl Z)) (hQ : ∀ b : Int, (b = 1 → wM (zx Z) (zl Z) q w) → (b ≠ 1 → ¬ wM (zx Z) (zl Z) q w) → Q (some (v_i (sp_bl (b = 1)))) g) : sp_Met (d + 1) mX6_isWord [v_r 52, v_i (wo w), v_i (wl w)] g Q := by
  have wb := wl_b w
  refine sp_of (L := [_, _, _, _, _]) (by decide) (Nat.le_of_ble_eq_true rfl) rfl rfl ?_
  refine aw_iconst dX6_isWord_0 ?_
  refine aw_istore_n (L2 := [_, _, _, _, _]) dX6_isWord_1 (by decide) rfl rfl ?_
  refine aw_iconst dX6_isWord_2 ?_
  refine aw_istore (L2 := [_, _, _, _, _]) dX6_isWord_3 (by decide) rfl rfl ?_
  exact lX6_isWord _ hR hV hw eq hq (fun k => hQ 1 (fun _ => k) (fun c => absurd rfl c)) (fun k => hQ 0 (fun c => by omega) (fun _ => k)) (wl w).toNat 1 0 (by omega) (by omega) (Or.inr rfl) (fun _ i i0 i1 => by omega) (fun c => by omega)
theorem lX6_wlen (d : Nat) {B : Int} {Z : zZ} {w : Int} {g : sp_G} {Q : sp_P} (hR : mRep g Z) (hV : zV B Z) (hw : 0 ≤ w ∧ w ≤ 4) (hk : sp_AW mX6_word (d + 2) 38 [some (v_r 52), some (v_i w), some (v_i (wo w)), some (v_i (wl w))] [] g Q) :
    ∀ (n : Nat) (k : Int), 0 ≤ k → k + n = wl w → sp_AW mX6_word (d + 2) 19 [some (v_r 52), some (v_i w), some (v_i (wo w)), some (v_i k)] [] g Q := by
  have ht := hR.tx
  have wb := wl_b w
  have ob := wo_b hw
  intro n
  induction n with
  | zero =>
    intro k h0 hn
    have ek : k = wl w := by omega
    have wv := (wds_b hw (i := k) (by omega)).2 ek
    have e59 := ht.2.2 (wo w + k) (wo w + k) (by omega) (by omega) (by omega)
    refine aw_aload_n dX6_word_19 rfl ?_
    refine aw_getR dX6_word_20 flX6_28 rfl rfl ?_
    refine aw_iload_n dX6_word_23 rfl ?_
    refine aw_iload_n dX6_word_24 rfl ?_
    refine aw_iadd dX6_word_25 ?_
    refine aw_cald dX6_word_26 rfl (by omega) ?_
    refine aw_bipush dX6_word_27 (by decide) ?_
    rw [e59]
    refine aw_icmp_eq (tg := 38) dX6_word_29 (by decide) (by omega) (fun h29 => ?_) (fun h29 => absurd h29 (by omega))
    rw [ek]
    exact hk
  | succ n ih =>
    intro k h0 hn
    have wv := (wds_b hw (i := k) (by omega)).1 (by omega)
    have e59 := ht.2.2 (wo w + k) (wo w + k) (by omega) (by omega) (by omega)
    refine aw_aload_n dX6_word_19 rfl ?_
    refine aw_getR dX6_word_20 flX6_28 rfl rfl ?_
    refine aw_iload_n dX6_word_23 rfl ?_
    refine aw_iload_n dX6_word_24 rfl ?_
    refine aw_iadd dX6_word_25 ?_
    refine aw_cald dX6_word_26 rfl (by omega) ?_
    refine aw_bipush dX6_word_27 (by decide) ?_
    rw [e59]
    refine aw_icmp_eq (tg := 38) dX6_word_29 (by decide) (by omega) (fun h29 => absurd h29 (by omega)) (fun h29 => ?_)
    refine aw_iinc (L2 := [_, _, _, _]) dX6_word_32 rfl (by decide) rfl rfl ?_
    refine aw_goto (tg := 19) dX6_word_35 (by decide) ?_
    exact ih (k + 1) (by omega) (by omega)
theorem lX6_word (d : Nat) {B : Int} {Z : zZ} {q : Int} {g : sp_G} {Q : sp_P} (hR : mRep g Z) (hV : zV B Z) (eq : g 52 7 = q) (hq : 0 ≤ q ∧ q ≤ (zl Z)) (hQ1 : ∀ w, (0 ≤ w ∧ w < 5) → wF (zx Z) (zl Z) q = w → Q (some (v_i w)) (sp_up g 52 7 (q + wl w))) (hQ0 : wF (zx Z) (zl Z) q = -1 → Q (some (v_i (-1))) g) :
    ∀ (n : Nat) (w fr : Int) (x : Option sp_V), 0 ≤ w → w + n = 5 → (w < 5 → fr = wo w) → (w = 5 → fr = 24) → (∀ v, 0 ≤ v → v < w → ¬ wM (zx Z) (zl Z) q v) → sp_AW mX6_word (d + 2) 8 [some (v_r 52), some (v_i w), some (v_i fr), x] [] g Q := by
  intro n
  induction n with
  | zero =>
    intro w fr x h0 hn f1 f2 hv
    have ew : w = 5 := by omega
    have e24 := f2 ew
    refine aw_iload_n dX6_word_8 rfl ?_
    refine aw_aload_n dX6_word_9 rfl ?_
    refine aw_getR dX6_word_10 flX6_28 rfl rfl ?_
    refine aw_alen dX6_word_13 rfl (by decide) ?_
    refine aw_icmp_ge (tg := 71) dX6_word_14 (by decide) (by omega) (fun h14 => ?_) (fun h14 => absurd h14 (by omega))
    refine aw_iconst dX6_word_71 ?_
    refine aw_iret dX6_word_72 rfl ?_
    exact hQ0 (wF_n (fun v v0 v1 => hv v v0 (by omega)))
  | succ n ih =>
    intro w fr x h0 hn f1 f2 hv
    have wb := wl_b w
    have ob := wo_b (w := w) (by omega)
    have ef := f1 (by omega)
    refine aw_iload_n dX6_word_8 rfl ?_
    refine aw_aload_n dX6_word_9 rfl ?_
    refine aw_getR dX6_word_10 flX6_28 rfl rfl ?_
    refine aw_alen dX6_word_13 rfl (by decide) ?_
    refine aw_icmp_ge (tg := 71) dX6_word_14 (by decide) (by omega) (fun h14 => absurd h14 (by omega)) (fun h14 => ?_)
    refine aw_iconst dX6_word_17 ?_
    refine aw_istore_n (L2 := [_, _, _, _]) dX6_word_18 (by decide) rfl rfl ?_
    rw [ef]
    refine lX6_wlen _ hR hV (by omega) ?_ (wl w).toNat 0 (by omega) (by omega)
    refine aw_aload_n dX6_word_38 rfl ?_
    refine aw_iload_n dX6_word_39 rfl ?_
    refine aw_iload_n dX6_word_40 rfl ?_
    refine aw_V2 dX6_word_41 okX6_isWord lkX6_127 rfl rfl rfl ?_
    refine zX6_isWord _ hR hV (by omega) eq hq (fun b hb1 hb0 => ?_)
    refine aw_ifeq_b (tg := 59) dX6_word_44 (by decide) (fun h44 => ?_) (fun h44 => ?_)
    · refine aw_iinc (L2 := [_, _, _, _]) dX6_word_59 rfl (by decide) rfl rfl ?_
      refine aw_iload_n dX6_word_62 rfl ?_
      refine aw_iload_n dX6_word_63 rfl ?_
      refine aw_iconst dX6_word_64 ?_
      refine aw_iadd dX6_word_65 ?_
      refine aw_iadd dX6_word_66 ?_
      refine aw_istore_n (L2 := [_, _, _, _]) dX6_word_67 (by decide) rfl rfl ?_
      refine aw_goto (tg := 8) dX6_word_68 (by decide) ?_
      refine ih (w + 1) _ _ (by omega) (by omega) (fun c => ?_) (fun c => ?_) (fun v v0 v1 => ?_)
      · have := ob.2.1 (by omega); omega
      · have := ob.2.2 (by omega); omega
      · by_cases c : v = w
        · rw [c]; exact hb0 h44
        · exact hv v v0 (by omega)
    · refine aw_aload_n dX6_word_47 rfl ?_
      refine aw_dup dX6_word_48 rfl ?_
      
      refine aw_getI (kz := 7) dX6_word_49 flX6_118 rfl rfl rfl ?_
      refine aw_iload_n dX6_word_52 rfl ?_
      rw [eq]
      refine aw_iadd dX6_word_53 ?_
      refine aw_putI (kz := 7) dX6_word_54 flX6_118 fi_6_7 rfl rfl rfl  ?_
      refine aw_iload_n dX6_word_57 rfl ?_
      refine aw_iret dX6_word_58 rfl ?_
      exact hQ1 w (by omega) (wF_y (by omega) (hb1 h44) hv)
theorem zX6_word (d : Nat) {B : Int} {Z : zZ} {p : Int} {g : sp_G} {Q : sp_P} (hR : mRep g Z) (hV : zV B Z) (ep : g 52 7 = p) (hp : 0 ≤ p ∧ p ≤ (zl Z)) (hQ1 : ∀ w, (0 ≤ w ∧ w < 5) → wF (zx Z) (zl Z) (sk (zx Z) (zl Z) p) = w → ∀ g2 : sp_G, atM g g2 → g2 52 7 = sk (zx Z) (zl Z) p + wl w → Q (some (v_i w)) g2) (hQ0 : wF (zx Z) (zl Z) (sk (zx Z) (zl Z) p) = -1 → ∀ g2 : sp_G, atM g g2 → g2 52 7 = sk (zx Z) (zl Z) p → Q (some (v_i (-1))) g2) : sp_Met (d + 2) mX6_word [v_r 52] g Q := by
  have hs := (sk_b (x := (zx Z)) hp.2).1
  refine sp_of (L := [_, _, _, _]) (by decide) (Nat.le_of_ble_eq_true rfl) rfl rfl ?_
  refine aw_aload_n dX6_word_0 rfl ?_
  refine aw_V0 dX6_word_1 okX6_skips lkX6_124 rfl rfl rfl ?_
  refine zX6_skips _ hR hV ep hp (fun g1 f1 n1 e1 => ?_)
  refine aw_iconst dX6_word_4 ?_
  refine aw_istore_n (L2 := [_, _, _, _]) dX6_word_5 (by decide) rfl rfl ?_
  refine aw_iconst dX6_word_6 ?_
  refine aw_istore_n (L2 := [_, _, _, _]) dX6_word_7 (by decide) rfl rfl ?_
  exact lX6_word _ (hR.sc f1.sc) hV e1 (by omega) (fun w hw ew => hQ1 w hw ew _ f1.at (sp_up_s _ _ _ _)) (fun ew => hQ0 ew _ f1 e1) 5 0 0 _ (by omega) (by omega) (fun _ => rfl) (fun c => by omega) (fun v v0 v1 => by omega)
theorem wX6_isNumber (d : Nat) {B : Int} {Z : zZ} {wh lo hi p : Int} {g : sp_G} {Q : sp_P} (hR : mRep g Z) (hV : zV B Z) (hwh : 0 ≤ wh ∧ wh < 4) (ep : g 52 7 = p) (hp : 0 ≤ p ∧ p ≤ (zl Z)) (hb : (0 ≤ lo ∧ lo ≤ 99) ∧ (0 ≤ hi ∧ hi ≤ 99)) (hQ : ∀ (b : Int) (g2 : sp_G), atM g g2 → (∀ j, j ≠ wh → g2 58 j = g 58 j) → (b = 1 → nK (zx Z) (zl Z) p lo hi ∧ g2 58 wh = nV (zx Z) (zl Z) p ∧ g2 52 7 = nE (zx Z) (zl Z) p) → (b ≠ 1 → ¬ nK (zx Z) (zl Z) p lo hi ∧ g2 52 7 = sk (zx Z) (zl Z) p) → Q (some (v_i (sp_bl (b = 1)))) g2) : sp_Met (d + 2) mX6_isNumber [v_r 52, v_i wh, v_i lo, v_i hi] g Q :=
  zX6_isNumber d hR hV hwh ep hp hb (fun k g2 a b c e => hQ 1 g2 a b (fun _ => ⟨k, c, e⟩) (fun q => absurd rfl q)) (fun k g2 a b e => hQ 0 g2 a b (fun q => by omega) (fun _ => ⟨k, e⟩))
theorem nE_sk {x : Int → Int} {N p : Int} (h : p ≤ N) : nE x N (sk x N p) = nE x N p ∧ nV x N (sk x N p) = nV x N p ∧ (∀ lo hi, nK x N (sk x N p) lo hi ↔ nK x N p lo hi) := by
  have e := sk_i (x := x) h
  have e1 : nE x N (sk x N p) = nE x N p := by unfold nE; rw [e]
  have e2 : nV x N (sk x N p) = nV x N p := by unfold nV; rw [e1, e]
  refine ⟨e1, e2, fun lo hi => ?_⟩
  unfold nK
  rw [e1, e2, e]
theorem wX6_isEnd (d : Nat) {B : Int} {Z : zZ} {p a : Int} {g : sp_G} {Q : sp_P} (hR : mRep g Z) (hV : zV B Z) (ep : g 52 7 = p) (hp : 0 ≤ p ∧ p ≤ (zl Z)) (ea : g 58 2 = a) (hab : 0 ≤ a ∧ a ≤ 99) (hQ : ∀ (b : Int) (g2 : sp_G), atM g g2 → (∀ j, j ≠ 3 → g2 58 j = g 58 j) → (b = 1 → (nK (zx Z) (zl Z) p 0 23 ∧ a / 4 ≤ nV (zx Z) (zl Z) p / 4 ∧ a % 4 ≤ nV (zx Z) (zl Z) p % 4) ∧ g2 58 3 = nV (zx Z) (zl Z) p ∧ g2 52 7 = nE (zx Z) (zl Z) p) → (b ≠ 1 → ¬ (nK (zx Z) (zl Z) p 0 23 ∧ a / 4 ≤ nV (zx Z) (zl Z) p / 4 ∧ a % 4 ≤ nV (zx Z) (zl Z) p % 4) ∧ g2 52 7 = sk (zx Z) (zl Z) p) → Q (some (v_i (sp_bl (b = 1)))) g2) : sp_Met (d + 3) mX6_isEnd [v_r 52] g Q := by
  have hs := (sk_b (x := (zx Z)) hp.2).1
  have hsk := nE_sk (x := (zx Z)) hp.2
  have hsi := sk_i (x := (zx Z)) hp.2
  refine sp_of (L := [_, _, _]) (by decide) (Nat.le_of_ble_eq_true rfl) rfl rfl ?_
  refine aw_aload_n dX6_isEnd_0 rfl ?_
  refine aw_V0 dX6_isEnd_1 okX6_skips lkX6_124 rfl rfl rfl ?_
  refine zX6_skips _ hR hV ep hp (fun g1 f1 n1 e1 => ?_)
  have r1 := hR.sc f1.sc
  refine aw_aload_n dX6_isEnd_4 rfl ?_
  refine aw_getI (kz := 7) dX6_isEnd_5 flX6_118 rfl rfl rfl ?_
  refine aw_istore_n (L2 := [_, _, _]) dX6_isEnd_8 (by decide) rfl rfl ?_
  refine aw_aload_n dX6_isEnd_9 rfl ?_
  refine aw_iconst dX6_isEnd_10 ?_
  refine aw_iconst dX6_isEnd_11 ?_
  refine aw_bipush dX6_isEnd_12 (by decide) ?_
  refine aw_V3 dX6_isEnd_14 okX6_isNumber lkX6_130 rfl rfl rfl ?_
  refine wX6_isNumber _ r1 hV (by omega) e1 (by omega) (by omega) (fun b g2 f2 m2 y2 z2 => ?_)
  rw [hsk.1, hsk.2.1, hsk.2.2, ] at y2
  rw [hsk.2.2, hsi] at z2
  refine aw_ifeq_b (tg := 42) dX6_isEnd_17 (by decide) (fun h17 => ?_) (fun h17 => ?_)
  · refine aw_iconst dX6_isEnd_42 ?_
    have z3 := z2 h17
    have hn : ¬ (nK (zx Z) (zl Z) p 0 23 ∧ a / 4 ≤ nV (zx Z) (zl Z) p / 4 ∧ a % 4 ≤ nV (zx Z) (zl Z) p % 4) := fun k => z3.1 k.1
    refine aw_istore_n (L2 := [_, _, _]) dX6_isEnd_43 (by decide) rfl rfl ?_
    refine aw_aload_n dX6_isEnd_44 rfl ?_
    refine aw_iload_n dX6_isEnd_45 rfl ?_
    refine aw_if_eq (tg := 56) dX6_isEnd_46 (by decide) (by omega) (fun j46 => ?_) (fun j46 => absurd j46 (by omega))
    refine aw_iload_n dX6_isEnd_56 rfl ?_
    rw [e1]
    refine aw_putI (kz := 7) dX6_isEnd_57 flX6_118 fi_6_7 rfl rfl rfl  ?_
    refine aw_iload_n dX6_isEnd_60 rfl ?_
    refine aw_zret dX6_isEnd_61 rfl (by omega) ?_
    exact hQ 0 _ (f1.tr f2).at (fun j hj => by rw [sp_up_o _ _ _ _ (by decide), m2 j hj, n1 j]) (fun c => by omega) (fun _ => ⟨hn, sp_up_s _ _ _ _⟩)
  · refine aw_aload_n dX6_isEnd_20 rfl ?_
    refine aw_getR dX6_isEnd_21 flX6_25 rfl rfl ?_
    refine aw_iconst dX6_isEnd_24 ?_
    refine aw_iald dX6_isEnd_25 rfl (by omega) ?_
    refine aw_aload_n dX6_isEnd_26 rfl ?_
    refine aw_getR dX6_isEnd_27 flX6_25 rfl rfl ?_
    refine aw_iconst dX6_isEnd_30 ?_
    refine aw_iald dX6_isEnd_31 rfl (by omega) ?_
    refine aw_S2 dX6_isEnd_32 okX6_isRectangle lkX6_88 rfl ?_
    have y3 := y2 h17
    have k3 := y3.1.2
    have e3 : g2 58 2 = a := by rw [m2 2 (by decide), n1 2, ea]
    rw [e3, y3.2.1]
    refine tX6_isRectangle _ hab (by omega) ?_
    refine aw_ifeq_b (tg := 42) dX6_isEnd_35 (by decide) (fun h35 => ?_) (fun h35 => ?_)
    · refine aw_iconst dX6_isEnd_42 ?_
      have hn : ¬ (nK (zx Z) (zl Z) p 0 23 ∧ a / 4 ≤ nV (zx Z) (zl Z) p / 4 ∧ a % 4 ≤ nV (zx Z) (zl Z) p % 4) := fun k => h35 k.2
      refine aw_istore_n (L2 := [_, _, _]) dX6_isEnd_43 (by decide) rfl rfl ?_
      refine aw_aload_n dX6_isEnd_44 rfl ?_
      refine aw_iload_n dX6_isEnd_45 rfl ?_
      refine aw_if_eq (tg := 56) dX6_isEnd_46 (by decide) (by omega) (fun j46 => ?_) (fun j46 => absurd j46 (by omega))
      refine aw_iload_n dX6_isEnd_56 rfl ?_
      rw [e1]
      refine aw_putI (kz := 7) dX6_isEnd_57 flX6_118 fi_6_7 rfl rfl rfl  ?_
      refine aw_iload_n dX6_isEnd_60 rfl ?_
      refine aw_zret dX6_isEnd_61 rfl (by omega) ?_
      exact hQ 0 _ (f1.tr f2).at (fun j hj => by rw [sp_up_o _ _ _ _ (by decide), m2 j hj, n1 j]) (fun c => by omega) (fun _ => ⟨hn, sp_up_s _ _ _ _⟩)
    · refine aw_iconst dX6_isEnd_38 ?_
      refine aw_goto (tg := 43) dX6_isEnd_39 (by decide) ?_
      refine aw_istore_n (L2 := [_, _, _]) dX6_isEnd_43 (by decide) rfl rfl ?_
      refine aw_aload_n dX6_isEnd_44 rfl ?_
      refine aw_iload_n dX6_isEnd_45 rfl ?_
      refine aw_if_eq (tg := 56) dX6_isEnd_46 (by decide) (by omega) (fun j46 => absurd j46 (by omega)) (fun j46 => ?_)
      refine aw_aload_n dX6_isEnd_49 rfl ?_
      refine aw_getI (kz := 7) dX6_isEnd_50 flX6_118 rfl rfl rfl ?_
      refine aw_goto (tg := 57) dX6_isEnd_53 (by decide) ?_
      rw [y3.2.2]
      refine aw_putI (kz := 7) dX6_isEnd_57 flX6_118 fi_6_7 rfl rfl rfl  ?_
      refine aw_iload_n dX6_isEnd_60 rfl ?_
      refine aw_zret dX6_isEnd_61 rfl (by omega) ?_
      exact hQ 1 _ (f1.tr f2).at (fun j hj => by rw [sp_up_o _ _ _ _ (by decide), m2 j hj, n1 j]) (fun _ => ⟨⟨y3.1, h35⟩, by rw [sp_up_o _ _ _ _ (by decide)]; exact y3.2.1, sp_up_s _ _ _ _⟩) (fun c => absurd rfl c)
