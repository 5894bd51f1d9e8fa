/-- both calls, one behind the other: the same answer, one state Z behind them -/
def bo (k : Int → sp_V) (B : Int) (M5 M6 : sp_M) (as : List sp_V) (g : sp_G) : Prop := ∀ Q : sp_P, (∀ (x : Int) (g2 : sp_G), (∀ Q2 : sp_P, (∀ (g3 : sp_G) (Z3 : zZ), cRep g3 Z3 → mRep g3 Z3 → zV (B + 1) Z3 → Q2 (some (k x)) g3) → sp_Met 8 M6 (v_r 52 :: as) g2 Q2) → Q (some (k x)) g2) → sp_Met 8 M5 (v_r 0 :: as) g Q
theorem zV_1 {B : Int} {Z : zZ} (h : zV B Z) : zV (B + 1) Z := zV_m h (by omega)
theorem zu_V {B : Int} {Z : zZ} (h : zV B Z) (h0 : 0 < zc Z) : zV B (zh Z (zc Z - 1), zh Z, zc Z - 1, zn Z, zx Z, zl Z) := by
  obtain ⟨h1, h2, h3, h4⟩ := h
  refine ⟨h3 (zc Z - 1) (by omega) (by omega), ⟨?_, ?_⟩, fun j j0 j1 => ?_, h4⟩
  · show 0 ≤ zc Z - 1
    omega
  · show zc Z - 1 ≤ 8
    omega
  · have j1 : j < zc Z - 1 := j1
    exact h3 j j0 (by omega)
theorem bo_on {B : Int} {Z : zZ} {l to : Int} {g : sp_G} (hC : cRep g Z) (hM : mRep g Z) (hV : zV B Z) (hr : ((-2147483648 ≤ l ∧ l < 2147483648)) ∧ ((-2147483648 ≤ to ∧ to < 2147483648))) : bo v_i B mX5_on mX6_on [v_i l, v_i to] g := by
  intro Q hQ
  refine qX5_on 5 hC hV hr (fun hc g2 hR2 hF => hQ _ g2 (fun Q2 h2 => ?_)) (fun hc g2 hR2 hF => hQ _ g2 (fun Q2 h2 => ?_))
  · exact rX6_on 0 (hM.mo hF) hV hr (fun _ g3 hM3 hF3 => h2 g3 _ (hR2.co hF3) hM3 (zV_1 (zw_V (zk_V hV) (tV_sw hV.1 hc.1 hc.2)))) (fun q => absurd hc q)
  · exact rX6_on 0 (hM.mo hF) hV hr (fun q => absurd q hc) (fun _ g3 hM3 hF3 => h2 g3 _ (hR2.co hF3) hM3 (zr_V hV (by decide)))
theorem bo_puts {B : Int} {Z : zZ} {l e a b : Int} {g : sp_G} (hC : cRep g Z) (hM : mRep g Z) (hV : zV B Z) (hr : ((-2147483648 ≤ l ∧ l < 2147483648)) ∧ ((-2147483648 ≤ e ∧ e < 2147483648)) ∧ ((-2147483648 ≤ a ∧ a < 2147483648)) ∧ ((-2147483648 ≤ b ∧ b < 2147483648))) : bo v_i B mX5_puts mX6_puts [v_i l, v_i e, v_i a, v_i b] g := by
  intro Q hQ
  refine qX5_puts 5 hC hV hr (fun hc g2 hR2 hF => hQ _ g2 (fun Q2 h2 => ?_)) (fun hc g2 hR2 hF => hQ _ g2 (fun Q2 h2 => ?_))
  · exact rX6_puts 0 (hM.mo hF) hV hr (fun _ g3 hM3 hF3 => h2 g3 _ (hR2.co hF3) hM3 (zV_1 (zw_V (zk_V hV) (tV_put hV.1 hc.2.1)))) (fun q => absurd hc q)
  · exact rX6_puts 0 (hM.mo hF) hV hr (fun q => absurd q hc) (fun _ g3 hM3 hF3 => h2 g3 _ (hR2.co hF3) hM3 (zr_V hV (by decide)))
theorem bo_names {B : Int} {Z : zZ} {l e n : Int} {g : sp_G} (hC : cRep g Z) (hM : mRep g Z) (hV : zV B Z) (hr : ((-2147483648 ≤ l ∧ l < 2147483648)) ∧ ((-2147483648 ≤ e ∧ e < 2147483648)) ∧ ((-2147483648 ≤ n ∧ n < 2147483648))) : bo v_i B mX5_names mX6_names [v_i l, v_i e, v_i n] g := by
  intro Q hQ
  refine qX5_names 5 hC hV hr (fun hc g2 hR2 hF => hQ _ g2 (fun Q2 h2 => ?_)) (fun hc g2 hR2 hF => hQ _ g2 (fun Q2 h2 => ?_))
  · exact rX6_names 0 (hM.mo hF) hV hr (fun _ g3 hM3 hF3 => h2 g3 _ (hR2.co hF3) hM3 (zV_1 (zw_V (zk_V hV) (tV_na hV.1 hc.2.2)))) (fun q => absurd hc q)
  · exact rX6_names 0 (hM.mo hF) hV hr (fun q => absurd q hc) (fun _ g3 hM3 hF3 => h2 g3 _ (hR2.co hF3) hM3 (zr_V hV (by decide)))
theorem bo_voters {B : Int} {Z : zZ} {a n : Int} {g : sp_G} (hC : cRep g Z) (hM : mRep g Z) (hV : zV B Z) (hr : ((-2147483648 ≤ a ∧ a < 2147483648)) ∧ ((-2147483648 ≤ n ∧ n < 2147483648))) : bo v_i B mX5_voters mX6_voters [v_i a, v_i n] g := by
  intro Q hQ
  refine qX5_voters 5 hC hV hr (fun hc g2 hR2 hF => hQ _ g2 (fun Q2 h2 => ?_)) (fun hc g2 hR2 hF => hQ _ g2 (fun Q2 h2 => ?_))
  · exact rX6_voters 0 (hM.mo hF) hV hr (fun _ g3 hM3 hF3 => h2 g3 _ (hR2.co hF3) hM3 (zV_1 (zw_V (zk_V hV) (tV_vo hV.1 hc.2)))) (fun q => absurd hc q)
  · exact rX6_voters 0 (hM.mo hF) hV hr (fun q => absurd q hc) (fun _ g3 hM3 hF3 => h2 g3 _ (hR2.co hF3) hM3 (zr_V hV (by decide)))
theorem bo_draw {B : Int} {Z : zZ} {l sd n : Int} {g : sp_G} (hC : cRep g Z) (hM : mRep g Z) (hV : zV B Z) (hr : ((-2147483648 ≤ l ∧ l < 2147483648)) ∧ ((-2147483648 ≤ sd ∧ sd < 2147483648)) ∧ ((-2147483648 ≤ n ∧ n < 2147483648))) : bo v_i B mX5_draw mX6_draw [v_i l, v_i sd, v_i n] g := by
  intro Q hQ
  refine qX5_draw 5 hC hV hr (fun hc g2 hR2 hF => hQ _ g2 (fun Q2 h2 => ?_)) (fun hc g2 hR2 hF => hQ _ g2 (fun Q2 h2 => ?_))
  · exact rX6_draw 0 (hM.mo hF) hV hr (fun _ g3 hM3 hF3 => h2 g3 _ (hR2.co hF3) hM3 (zV_1 (zw_V (zk_V hV) (tV_dr hV.1 hc.2.2)))) (fun q => absurd hc q)
  · exact rX6_draw 0 (hM.mo hF) hV hr (fun q => absurd q hc) (fun _ g3 hM3 hF3 => h2 g3 _ (hR2.co hF3) hM3 (zr_V hV (by decide)))
theorem bo_follows {B : Int} {Z : zZ} {l way k : Int} {g : sp_G} (hC : cRep g Z) (hM : mRep g Z) (hV : zV B Z) (hr : ((-2147483648 ≤ l ∧ l < 2147483648)) ∧ ((-2147483648 ≤ way ∧ way < 2147483648)) ∧ ((-2147483648 ≤ k ∧ k < 2147483648))) : bo v_i B mX5_follows mX6_follows [v_i l, v_i way, v_i k] g := by
  intro Q hQ
  refine qX5_follows 5 hC hV hr (fun hc g2 hR2 hF => hQ _ g2 (fun Q2 h2 => ?_)) (fun hc g2 hR2 hF => hQ _ g2 (fun Q2 h2 => ?_))
  · exact rX6_follows 0 (hM.mo hF) hV hr (fun _ g3 hM3 hF3 => h2 g3 _ (hR2.co hF3) hM3 (zV_1 (zw_V (zk_V hV) (tV_fw hV.1 hc.1 hc.2.2)))) (fun q => absurd hc q)
  · exact rX6_follows 0 (hM.mo hF) hV hr (fun q => absurd q hc) (fun _ g3 hM3 hF3 => h2 g3 _ (hR2.co hF3) hM3 (zr_V hV (by decide)))
theorem bo_of {B : Int} {Z : zZ} {a what : Int} {g : sp_G} (hC : cRep g Z) (hM : mRep g Z) (hV : zV B Z) (hr : ((-2147483648 ≤ a ∧ a < 2147483648)) ∧ ((-2147483648 ≤ what ∧ what < 2147483648))) : bo v_i B mX5_of mX6_of [v_i a, v_i what] g := by
  intro Q hQ
  refine qX5_of 0 hC hV hr (fun hc g2 hR2 hF => hQ _ g2 (fun Q2 h2 => ?_)) (fun hc g2 hR2 hF => hQ _ g2 (fun Q2 h2 => ?_))
  · exact rX6_of 0 (hM.mo hF) hV hr (fun _ g3 hM3 hF3 => h2 g3 _ (hR2.co hF3) hM3 (zV_1 hV)) (fun q => absurd hc q)
  · exact rX6_of 0 (hM.mo hF) hV hr (fun q => absurd q hc) (fun _ g3 hM3 hF3 => h2 g3 _ (hR2.co hF3) hM3 (zr_V hV (by decide)))
theorem bo_style {B : Int} {Z : zZ} {s what : Int} {g : sp_G} (hC : cRep g Z) (hM : mRep g Z) (hV : zV B Z) (hr : ((-2147483648 ≤ s ∧ s < 2147483648)) ∧ ((-2147483648 ≤ what ∧ what < 2147483648))) : bo v_i B mX5_style mX6_style [v_i s, v_i what] g := by
  intro Q hQ
  refine qX5_style 0 hC hV hr (fun hc g2 hR2 hF => hQ _ g2 (fun Q2 h2 => ?_)) (fun hc g2 hR2 hF => hQ _ g2 (fun Q2 h2 => ?_))
  · exact rX6_style 0 (hM.mo hF) hV hr (fun _ g3 hM3 hF3 => h2 g3 _ (hR2.co hF3) hM3 (zV_1 hV)) (fun q => absurd hc q)
  · exact rX6_style 0 (hM.mo hF) hV hr (fun q => absurd q hc) (fun _ g3 hM3 hF3 => h2 g3 _ (hR2.co hF3) hM3 (zr_V hV (by decide)))
theorem bo_without {B : Int} {Z : zZ} {l : Int} {g : sp_G} (hC : cRep g Z) (hM : mRep g Z) (hV : zV B Z) (hr : (-2147483648 ≤ l ∧ l < 2147483648)) : bo v_i B mX5_without mX6_without [v_i l] g := by
  intro Q hQ
  refine qX5_without 0 hC hV hr (fun hc g2 hR2 hF => hQ _ g2 (fun Q2 h2 => ?_)) (fun hc g2 hR2 hF => hQ _ g2 (fun Q2 h2 => ?_))
  · exact rX6_without 0 (hM.mo hF) hV hr (fun _ g3 hM3 hF3 => h2 g3 _ (hR2.co hF3) hM3 (zV_1 hV)) (fun q => absurd hc q)
  · exact rX6_without 0 (hM.mo hF) hV hr (fun q => absurd q hc) (fun _ g3 hM3 hF3 => h2 g3 _ (hR2.co hF3) hM3 (zr_V hV (by decide)))
theorem bo_beside {B : Int} {Z : zZ} {s q : Int} {g : sp_G} (hC : cRep g Z) (hM : mRep g Z) (hV : zV B Z) (hr : ((-2147483648 ≤ s ∧ s < 2147483648)) ∧ ((-2147483648 ≤ q ∧ q < 2147483648))) : bo v_i B mX5_beside mX6_beside [v_i s, v_i q] g := by
  intro Q hQ
  refine qX5_beside 0 hC hV hr (fun hc g2 hR2 hF => hQ _ g2 (fun Q2 h2 => ?_)) (fun hc g2 hR2 hF => hQ _ g2 (fun Q2 h2 => ?_))
  · exact rX6_beside 0 (hM.mo hF) hV hr (fun _ g3 hM3 hF3 => h2 g3 _ (hR2.co hF3) hM3 (zV_1 hV)) (fun q => absurd hc q)
  · exact rX6_beside 0 (hM.mo hF) hV hr (fun q => absurd q hc) (fun _ g3 hM3 hF3 => h2 g3 _ (hR2.co hF3) hM3 (zr_V hV (by decide)))
theorem bo_unlike {B : Int} {Z : zZ} {s q : Int} {g : sp_G} (hC : cRep g Z) (hM : mRep g Z) (hV : zV B Z) (hr : ((-2147483648 ≤ s ∧ s < 2147483648)) ∧ ((-2147483648 ≤ q ∧ q < 2147483648))) : bo v_i B mX5_unlike mX6_unlike [v_i s, v_i q] g := by
  intro Q hQ
  refine qX5_unlike 0 hC hV hr (fun hc g2 hR2 hF => hQ _ g2 (fun Q2 h2 => ?_)) (fun hc g2 hR2 hF => hQ _ g2 (fun Q2 h2 => ?_))
  · exact rX6_unlike 0 (hM.mo hF) hV hr (fun _ g3 hM3 hF3 => h2 g3 _ (hR2.co hF3) hM3 (zV_1 hV)) (fun q => absurd hc q)
  · exact rX6_unlike 0 (hM.mo hF) hV hr (fun q => absurd q hc) (fun _ g3 hM3 hF3 => h2 g3 _ (hR2.co hF3) hM3 (zr_V hV (by decide)))
theorem bo_odd {B : Int} {Z : zZ} {what : Int} {g : sp_G} (hC : cRep g Z) (hM : mRep g Z) (hV : zV B Z) (hr : (-2147483648 ≤ what ∧ what < 2147483648)) : bo v_i B mX5_odd mX6_odd [v_i what] g := by
  intro Q hQ
  refine qX5_odd 0 hC hV hr (fun hc g2 hR2 hF => hQ _ g2 (fun Q2 h2 => ?_)) (fun hc g2 hR2 hF => hQ _ g2 (fun Q2 h2 => ?_))
  · exact rX6_odd 0 (hM.mo hF) hV hr (fun _ g3 hM3 hF3 => h2 g3 _ (hR2.co hF3) hM3 (zV_1 hV)) (fun q => absurd hc q)
  · exact rX6_odd 0 (hM.mo hF) hV hr (fun q => absurd q hc) (fun _ g3 hM3 hF3 => h2 g3 _ (hR2.co hF3) hM3 (zr_V hV (by decide)))
theorem bo_paper {B : Int} {Z : zZ} {what v : Int} {g : sp_G} (hC : cRep g Z) (hM : mRep g Z) (hV : zV B Z) (hr : ((-2147483648 ≤ what ∧ what < 2147483648)) ∧ ((-2147483648 ≤ v ∧ v < 2147483648))) : bo v_i B mX5_paper mX6_paper [v_i what, v_i v] g := by
  intro Q hQ
  refine qX5_paper 0 hC hV hr (fun hc g2 hR2 hF => hQ _ g2 (fun Q2 h2 => ?_)) (fun hc g2 hR2 hF => hQ _ g2 (fun Q2 h2 => ?_))
  · exact rX6_paper 0 (hM.mo hF) hV hr (fun _ g3 hM3 hF3 => h2 g3 _ (hR2.co hF3) hM3 (zV_1 (zq_V hV hc))) (fun q => absurd hc q)
  · exact rX6_paper 0 (hM.mo hF) hV hr (fun q => absurd q hc) (fun _ g3 hM3 hF3 => h2 g3 _ (hR2.co hF3) hM3 (zr_V hV (by decide)))
theorem bo_faces {B : Int} {Z : zZ} {s : Int} {g : sp_G} (hC : cRep g Z) (hM : mRep g Z) (hV : zV B Z) (hr : (-2147483648 ≤ s ∧ s < 2147483648)) : bo v_i B mX5_faces mX6_faces [v_i s] g := by
  intro Q hQ
  refine qX5_faces 0 hC hV hr (fun hc g2 hR2 hF => hQ _ g2 (fun Q2 h2 => ?_)) (fun hc g2 hR2 hF => hQ _ g2 (fun Q2 h2 => ?_))
  · exact rX6_faces 0 (hM.mo hF) hV hr (fun _ g3 hM3 hF3 => h2 g3 _ (hR2.co hF3) hM3 (zV_1 hV)) (fun q => absurd hc q)
  · exact rX6_faces 0 (hM.mo hF) hV hr (fun q => absurd q hc) (fun _ g3 hM3 hF3 => h2 g3 _ (hR2.co hF3) hM3 (zr_V hV (by decide)))
theorem bo_contest {B : Int} {Z : zZ} {s k what : Int} {g : sp_G} (hC : cRep g Z) (hM : mRep g Z) (hV : zV B Z) (hr : ((-2147483648 ≤ s ∧ s < 2147483648)) ∧ ((-2147483648 ≤ k ∧ k < 2147483648)) ∧ ((-2147483648 ≤ what ∧ what < 2147483648))) : bo v_i B mX5_contest mX6_contest [v_i s, v_i k, v_i what] g := by
  intro Q hQ
  refine qX5_contest 0 hC hV hr (fun hc g2 hR2 hF => hQ _ g2 (fun Q2 h2 => ?_)) (fun hc g2 hR2 hF => hQ _ g2 (fun Q2 h2 => ?_))
  · exact rX6_contest 0 (hM.mo hF) hV hr (fun _ g3 hM3 hF3 => h2 g3 _ (hR2.co hF3) hM3 (zV_1 hV)) (fun q => absurd hc q)
  · exact rX6_contest 0 (hM.mo hF) hV hr (fun q => absurd q hc) (fun _ g3 hM3 hF3 => h2 g3 _ (hR2.co hF3) hM3 (zr_V hV (by decide)))
theorem bo_room {B : Int} {Z : zZ} {s what : Int} {g : sp_G} (hC : cRep g Z) (hM : mRep g Z) (hV : zV B Z) (hr : ((-2147483648 ≤ s ∧ s < 2147483648)) ∧ ((-2147483648 ≤ what ∧ what < 2147483648))) : bo v_i B mX5_room mX6_room [v_i s, v_i what] g := by
  intro Q hQ
  refine qX5_room 0 hC hV hr (fun hc g2 hR2 hF => hQ _ g2 (fun Q2 h2 => ?_)) (fun hc g2 hR2 hF => hQ _ g2 (fun Q2 h2 => ?_))
  · exact rX6_room 0 (hM.mo hF) hV hr (fun _ g3 hM3 hF3 => h2 g3 _ (hR2.co hF3) hM3 (zV_1 hV)) (fun q => absurd hc q)
  · exact rX6_room 0 (hM.mo hF) hV hr (fun q => absurd q hc) (fun _ g3 hM3 hF3 => h2 g3 _ (hR2.co hF3) hM3 (zr_V hV (by decide)))
theorem bo_leads {B : Int} {Z : zZ} {a l : Int} {g : sp_G} (hC : cRep g Z) (hM : mRep g Z) (hV : zV B Z) (hr : ((-2147483648 ≤ a ∧ a < 2147483648)) ∧ ((-2147483648 ≤ l ∧ l < 2147483648))) : bo v_i B mX5_leads mX6_leads [v_i a, v_i l] g := by
  intro Q hQ
  refine qX5_leads 0 hC hV hr (fun hc g2 hR2 hF => hQ _ g2 (fun Q2 h2 => ?_)) (fun hc g2 hR2 hF => hQ _ g2 (fun Q2 h2 => ?_))
  · exact rX6_leads 0 (hM.mo hF) hV hr (fun _ g3 hM3 hF3 => h2 g3 _ (hR2.co hF3) hM3 (zV_1 hV)) (fun q => absurd hc q)
  · exact rX6_leads 0 (hM.mo hF) hV hr (fun q => absurd q hc) (fun _ g3 hM3 hF3 => h2 g3 _ (hR2.co hF3) hM3 (zr_V hV (by decide)))
theorem bo_lead {B : Int} {Z : zZ} {l e n : Int} {g : sp_G} (hC : cRep g Z) (hM : mRep g Z) (hV : zV B Z) (hr : ((-2147483648 ≤ l ∧ l < 2147483648)) ∧ ((-2147483648 ≤ e ∧ e < 2147483648)) ∧ ((-2147483648 ≤ n ∧ n < 2147483648))) : bo v_i B mX5_lead mX6_lead [v_i l, v_i e, v_i n] g := by
  intro Q hQ
  refine qX5_lead 0 hC hV hr (fun hc g2 hR2 hF => hQ _ g2 (fun Q2 h2 => ?_)) (fun hc g2 hR2 hF => hQ _ g2 (fun Q2 h2 => ?_))
  · exact rX6_lead 0 (hM.mo hF) hV hr (fun _ g3 hM3 hF3 => h2 g3 _ (hR2.co hF3) hM3 (zV_1 hV)) (fun q => absurd hc q)
  · exact rX6_lead 0 (hM.mo hF) hV hr (fun q => absurd q hc) (fun _ g3 hM3 hF3 => h2 g3 _ (hR2.co hF3) hM3 (zr_V hV (by decide)))
theorem bo_fair {B : Int} {Z : zZ} {l e what : Int} {g : sp_G} (hC : cRep g Z) (hM : mRep g Z) (hV : zV B Z) (hr : ((-2147483648 ≤ l ∧ l < 2147483648)) ∧ ((-2147483648 ≤ e ∧ e < 2147483648)) ∧ ((-2147483648 ≤ what ∧ what < 2147483648))) : bo v_i B mX5_fair mX6_fair [v_i l, v_i e, v_i what] g := by
  intro Q hQ
  refine qX5_fair 0 hC hV hr (fun hc g2 hR2 hF => hQ _ g2 (fun Q2 h2 => ?_)) (fun hc g2 hR2 hF => hQ _ g2 (fun Q2 h2 => ?_))
  · exact rX6_fair 0 (hM.mo hF) hV hr (fun _ g3 hM3 hF3 => h2 g3 _ (hR2.co hF3) hM3 (zV_1 hV)) (fun q => absurd hc q)
  · exact rX6_fair 0 (hM.mo hF) hV hr (fun q => absurd q hc) (fun _ g3 hM3 hF3 => h2 g3 _ (hR2.co hF3) hM3 (zr_V hV (by decide)))
theorem bo_place {B : Int} {Z : zZ} {a l n : Int} {g : sp_G} (hC : cRep g Z) (hM : mRep g Z) (hV : zV B Z) (hr : ((-2147483648 ≤ a ∧ a < 2147483648)) ∧ ((-2147483648 ≤ l ∧ l < 2147483648)) ∧ ((-2147483648 ≤ n ∧ n < 2147483648))) : bo v_i B mX5_place mX6_place [v_i a, v_i l, v_i n] g := by
  intro Q hQ
  refine qX5_place 0 hC hV hr (fun hc g2 hR2 hF => hQ _ g2 (fun Q2 h2 => ?_)) (fun hc g2 hR2 hF => hQ _ g2 (fun Q2 h2 => ?_))
  · exact rX6_place 0 (hM.mo hF) hV hr (fun _ g3 hM3 hF3 => h2 g3 _ (hR2.co hF3) hM3 (zV_1 hV)) (fun q => absurd hc q)
  · exact rX6_place 0 (hM.mo hF) hV hr (fun q => absurd q hc) (fun _ g3 hM3 hF3 => h2 g3 _ (hR2.co hF3) hM3 (zr_V hV (by decide)))
theorem bo_told {B : Int} {Z : zZ} {k : Int} {g : sp_G} (hC : cRep g Z) (hM : mRep g Z) (hV : zV B Z) (hr : (-2147483648 ≤ k ∧ k < 2147483648)) : bo v_i B mX5_told mX6_told [v_i k] g := by
  intro Q hQ
  refine qX5_told 0 hC hV hr (fun hc g2 hR2 hF => hQ _ g2 (fun Q2 h2 => ?_)) (fun hc g2 hR2 hF => hQ _ g2 (fun Q2 h2 => ?_))
  · exact rX6_told 0 (hM.mo hF) hV hr (fun _ g3 hM3 hF3 => h2 g3 _ (hR2.co hF3) hM3 (zV_1 hV)) (fun q => absurd hc q)
  · exact rX6_told 0 (hM.mo hF) hV hr (fun q => absurd q hc) (fun _ g3 hM3 hF3 => h2 g3 _ (hR2.co hF3) hM3 (zr_V hV (by decide)))
theorem bo_styles {B : Int} {Z : zZ} {g : sp_G} (hC : cRep g Z) (hM : mRep g Z) (hV : zV B Z) : bo v_i B mX5_styles mX6_styles [] g := by
  intro Q hQ
  refine qX5_styles 0 hC hV (fun g2 hR2 hF => hQ _ g2 (fun Q2 h2 => ?_))
  exact rX6_styles 0 (hM.mo hF) hV (fun g3 hM3 hF3 => h2 g3 _ (hR2.co hF3) hM3 (zV_1 hV))
theorem bo_border {B : Int} {Z : zZ} {g : sp_G} (hC : cRep g Z) (hM : mRep g Z) (hV : zV B Z) : bo v_i B mX5_border mX6_border [] g := by
  intro Q hQ
  refine qX5_border 0 hC hV (fun g2 hR2 hF => hQ _ g2 (fun Q2 h2 => ?_))
  exact rX6_border 0 (hM.mo hF) hV (fun g3 hM3 hF3 => h2 g3 _ (hR2.co hF3) hM3 (zV_1 hV))
theorem bo_clear {B : Int} {Z : zZ} {g : sp_G} (hC : cRep g Z) (hM : mRep g Z) (hV : zV B Z) : bo v_i B mX5_clear mX6_clear [] g := by
  intro Q hQ
  refine qX5_clear 0 hC hV (fun g2 hR2 hF => hQ _ g2 (fun Q2 h2 => ?_))
  exact rX6_clear 0 (hM.mo hF) hV (fun g3 hM3 hF3 => h2 g3 _ (hR2.co hF3) hM3 (zV_1 (zcl_V hV)))
theorem bo_digest {B : Int} {Z : zZ} {g : sp_G} (hC : cRep g Z) (hM : mRep g Z) (hV : zV B Z) (hB : B ≤ 1000000) : bo v_l B mX5_digest mX6_digest [] g := by
  intro Q hQ
  refine qX5_digest 0 hC hV hB (fun g2 hR2 hF => hQ _ g2 (fun Q2 h2 => ?_))
  exact rX6_digest 0 (hM.mo hF) hV hB (fun g3 hM3 hF3 => h2 g3 _ (hR2.co hF3) hM3 (zV_1 hV))
theorem bo_undo {B : Int} {Z : zZ} {g : sp_G} (hC : cRep g Z) (hM : mRep g Z) (hV : zV B Z) : bo v_i B mX5_undo mX6_undo [] g := by
  intro Q hQ
  refine qX5_undo 5 hC hV (fun hc g2 hR2 hF => hQ _ g2 (fun Q2 h2 => ?_)) (fun hc g2 hR2 hF => hQ _ g2 (fun Q2 h2 => ?_))
  · exact rX6_undo 0 (hM.mo hF) hV (fun _ g3 hM3 hF3 => h2 g3 _ (hR2.co hF3) hM3 (zV_1 (zu_V hV hc))) (fun q => absurd hc (by omega))
  · exact rX6_undo 0 (hM.mo hF) hV (fun q => absurd q (by omega)) (fun _ g3 hM3 hF3 => h2 g3 _ (hR2.co hF3) hM3 (zr_V hV (by decide)))
theorem bo_type {B : Int} {Z : zZ} {c : Int} {g : sp_G} (hC : cRep g Z) (hM : mRep g Z) (hV : zV B Z) (hr : (-2147483648 ≤ c ∧ c < 2147483648)) : bo v_i B mX5_type mX6_type [v_i c] g := by
  intro Q hQ
  refine qX5_type 0 hC hV hr (fun hc hl g2 hR2 hF => hQ _ g2 (fun Q2 h2 => ?_)) (fun hc hl g2 hR2 hF => hQ _ g2 (fun Q2 h2 => ?_)) (fun hc g2 hR2 hF => hQ _ g2 (fun Q2 h2 => ?_))
  · exact rX6_type 0 (hM.mo hF) hV hr (fun _ _ g3 hM3 hF3 => h2 g3 _ (hR2.co hF3) hM3 (zV_1 (zty_V hV hc hl))) (fun _ q => absurd hl q) (fun q => absurd hc q)
  · exact rX6_type 0 (hM.mo hF) hV hr (fun _ q => absurd q hl) (fun _ _ g3 hM3 hF3 => h2 g3 _ (hR2.co hF3) hM3 (zr_V hV (by decide))) (fun q => absurd hc q)
  · exact rX6_type 0 (hM.mo hF) hV hr (fun q => absurd q hc) (fun q => absurd q hc) (fun _ g3 hM3 hF3 => h2 g3 _ (hR2.co hF3) hM3 (zr_V hV (by decide)))
theorem bo_rule {B : Int} {Z : zZ} {what : Int} {g : sp_G} (hC : cRep g Z) (hM : mRep g Z) (hV : zV B Z) (hr : (-2147483648 ≤ what ∧ what < 2147483648)) : bo v_i B mX5_rule mX6_rule [v_i what] g := by
  intro Q hQ
  refine qX5_rule 0 hC hV hr (fun hc hl g2 hR2 hF => hQ _ g2 (fun Q2 h2 => ?_)) (fun hc hl g2 hR2 hF => hQ _ g2 (fun Q2 h2 => ?_)) (fun hc g2 hR2 hF => hQ _ g2 (fun Q2 h2 => ?_))
  · exact rX6_rule 0 (hM.mo hF) hV hr (fun _ _ g3 hM3 hF3 => h2 g3 _ (hR2.co hF3) hM3 (zV_1 hV)) (fun _ q => absurd q hl) (fun q => absurd hc q)
  · exact rX6_rule 0 (hM.mo hF) hV hr (fun _ q => absurd hl q) (fun _ _ g3 hM3 hF3 => h2 g3 _ (hR2.co hF3) hM3 (zr_V hV (by decide))) (fun q => absurd hc q)
  · exact rX6_rule 0 (hM.mo hF) hV hr (fun q => absurd q hc) (fun q => absurd q hc) (fun _ g3 hM3 hF3 => h2 g3 _ (hR2.co hF3) hM3 (zr_V hV (by decide)))
theorem bo_does {B : Int} {Z : zZ} {g : sp_G} (hC : cRep g Z) (hM : mRep g Z) (hV : zV B Z) : bo v_i B mX5_does mX6_does [] g := by
  intro Q hQ
  refine qX5_does 0 hC hV (fun n hn g2 hR2 hF => hQ _ g2 (fun Q2 h2 => ?_)) (fun f hf g2 hR2 hF => hQ _ g2 (fun Q2 h2 => ?_))
  · exact rX6_does 0 (hM.mo hF) hV (fun m hm g3 hM3 hF3 => by
      have e := sOK_u hm hn
      subst e
      exact h2 g3 _ (hR2.co hF3) hM3 (zV_1 (zD_V hV _ hn.2.1))) (fun f hf => absurd hf (fun q => sOK_sF hn q))
  · exact rX6_does 0 (hM.mo hF) hV (fun m hm => absurd hf (fun q => sOK_sF hm q)) (fun e he g3 hM3 hF3 => by
      have e9 := sF_u he hf
      subst e9
      exact h2 g3 _ (hR2.co hF3) hM3 (zV_1 hV))
