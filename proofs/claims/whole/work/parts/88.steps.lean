/-! the steps of both worlds, method by method -/
section STP
variable {l : Launch} {G : lzG} {ad : Nat → Nat → Nat → Nat} {aK aV : Nat} {C it F FS RS : Nat → Nat → Int32} {RF : Nat → Nat → Nat → Int32} {MD : Nat → Nat → Int32} {MF : Nat → Nat → Nat → Int32} {cs : Nat → Int64} {B : Nat → Nat → Int32} {wy : Nat → Int64}
set_option maxHeartbeats 1000000 in
set_option maxRecDepth 100000 in
theorem st_fault (hR : Rel C it F RS RF MD MF B) : stepX l G ad aK aV yX3_fault wsX3_fault yX4_fault wsX4_fault [] C it F FS RS RF MD MF cs B wy := by
  exact step_mk (xs_ro (c_X3_fault l G (ad 0 0 0) (ad 1 0) (C 0) ) (fun _ h => h) (xp_0 G ad C it F FS RS RF MD MF cs)) (ms_rw (c_X4_fault l G (ad 11 0 0) (ad 12 0) (B 0) ) (fun _ _ h => h.trans hR.2.1.2.symm) (mp_0 G ad B wy) (mp_0 G ad (lzF B 0 (upd (B 0) 0 0)) wy)) (rel_th hR)
set_option maxHeartbeats 1000000 in
set_option maxRecDepth 100000 in
theorem st_status (hR : Rel C it F RS RF MD MF B) : stepX l G ad aK aV yX3_status wsX3_status yX4_status wsX4_status [] C it F FS RS RF MD MF cs B wy := by
  exact step_mk (xs_ro (c_X3_status l G (ad 0 0 0) (ad 1 0) (C 0) ) (fun _ h => h) (xp_0 G ad C it F FS RS RF MD MF cs)) (ms_rw (c_X4_status l G (ad 11 0 0) (ad 12 0) (B 0) ) (fun _ _ h => h.trans hR.2.1.1.symm) (mp_0 G ad B wy) (mp_0 G ad (lzF B 0 (upd (B 0) 0 0)) wy)) (rel_th hR)
set_option maxHeartbeats 1000000 in
set_option maxRecDepth 100000 in
theorem st_kind (hR : Rel C it F RS RF MD MF B) (a : Int32) : stepX l G ad aK aV yX3_kind wsX3_kind yX4_kind wsX4_kind [.int a] C it F FS RS RF MD MF cs B wy := by
  obtain ⟨N, M, hD⟩ := hR.1
  obtain ⟨dN, fN, hN8⟩ := rd_hN hD
  obtain ⟨dM, fM, hM5⟩ := rd_hM hD
  have eN : C 5 2 = B 4 2 := dN.trans fN.symm
  have eM : C 5 3 = B 4 3 := dM.trans fM.symm
  cases hb : inR a 0 (C 5 2 - 1)
  · exact step_mk (xs_ro (c_X3_kind_bad l G (ad 0 0 0) (ad 1 0) (C 0) (ad 3 0) (C 5) F a (hb)) (fun _ h => h) (xp_0_5 G ad C it F FS RS RF MD MF cs)) (ms_rw (c_X4_kind_bad l G (ad 11 0 0) (ad 12 0) (B 0) (B 4) a (eN ▸ hb)) (fun _ _ h => h) (mp_0_4 G ad B wy) (mp_0_4 G ad (lzF B 0 (upd (B 0) 0 0)) wy)) (rel_th hR)
  · obtain ⟨k, hk, rfl⟩ := idx_nat dN (by omega) hb
    exact step_mk (xs_ro (c_X3_kind_ok l G (ad 0 0 0) (ad 1 0) (C 0) (ad 3 0) (C 5) F k N (dN) (hN8) (hk)) (fun _ h => h) (xp_0_5 G ad C it F FS RS RF MD MF cs)) (ms_rw (c_X4_kind_ok l G (ad 11 0 0) (ad 12 0) (B 0) (B 4) k N (fN) (hN8) (hk)) (fun _ _ h => h.trans (rd_sq hD hk).1.symm) (mp_0_4 G ad B wy) (mp_0_4 G ad (lzF B 0 (upd (B 0) 0 0)) wy)) (rel_th hR)
set_option maxHeartbeats 1000000 in
set_option maxRecDepth 100000 in
theorem st_square (hR : Rel C it F RS RF MD MF B) (a : Int32) (what : Int32) : stepX l G ad aK aV yX3_square wsX3_square yX4_square wsX4_square [.int a, .int what] C it F FS RS RF MD MF cs B wy := by
  obtain ⟨N, M, hD⟩ := hR.1
  obtain ⟨dN, fN, hN8⟩ := rd_hN hD
  obtain ⟨dM, fM, hM5⟩ := rd_hM hD
  have eN : C 5 2 = B 4 2 := dN.trans fN.symm
  have eM : C 5 3 = B 4 3 := dM.trans fM.symm
  cases hb : inR a 0 (C 5 2 - 1)
  · exact step_mk (xs_ro (c_X3_square_bad l G (ad 0 0 0) (ad 1 0) (C 0) (ad 3 0) (C 5) F a what (hb)) (fun _ h => h) (xp_0_5 G ad C it F FS RS RF MD MF cs)) (ms_rw (c_X4_square_bad l G (ad 11 0 0) (ad 12 0) (B 0) (B 4) a what (eN ▸ hb)) (fun _ _ h => h) (mp_0_4 G ad B wy) (mp_0_4 G ad (lzF B 0 (upd (B 0) 0 0)) wy)) (rel_th hR)
  · obtain ⟨k, hk, rfl⟩ := idx_nat dN (by omega) hb
    exact step_mk (xs_ro (c_X3_square_ok l G (ad 0 0 0) (ad 1 0) (C 0) (ad 3 0) (C 5) F k N what (dN) (hN8) (hk)) (fun _ h => h) (xp_0_5 G ad C it F FS RS RF MD MF cs)) (ms_rw (c_X4_square_ok l G (ad 11 0 0) (ad 12 0) (B 0) (B 4) k N what (fN) (hN8) (hk)) (fun _ _ h => h.trans (rd_squ hD hk what)) (mp_0_4 G ad B wy) (mp_0_4 G ad (lzF B 0 (upd (B 0) 0 0)) wy)) (rel_th hR)
set_option maxHeartbeats 1000000 in
set_option maxRecDepth 100000 in
theorem st_learned (hR : Rel C it F RS RF MD MF B) (a : Int32) : stepX l G ad aK aV yX3_learned wsX3_learned yX4_learned wsX4_learned [.int a] C it F FS RS RF MD MF cs B wy := by
  obtain ⟨N, M, hD⟩ := hR.1
  obtain ⟨dN, fN, hN8⟩ := rd_hN hD
  obtain ⟨dM, fM, hM5⟩ := rd_hM hD
  have eN : C 5 2 = B 4 2 := dN.trans fN.symm
  have eM : C 5 3 = B 4 3 := dM.trans fM.symm
  cases hb : inR a 0 (C 5 2 - 1)
  · exact step_mk (xs_ro (c_X3_learned_bad l G (ad 0 0 0) (ad 1 0) (C 0) (ad 3 0) (C 5) F a (hb)) (fun _ h => h) (xp_0_5 G ad C it F FS RS RF MD MF cs)) (ms_rw (c_X4_learned_bad l G (ad 11 0 0) (ad 12 0) (B 0) (B 4) a (eN ▸ hb)) (fun _ _ h => h) (mp_0_4 G ad B wy) (mp_0_4 G ad (lzF B 0 (upd (B 0) 0 0)) wy)) (rel_th hR)
  · obtain ⟨k, hk, rfl⟩ := idx_nat dN (by omega) hb
    exact step_mk (xs_ro (c_X3_learned_ok l G (ad 0 0 0) (ad 1 0) (C 0) (ad 3 0) (C 5) F k N (dN) (hN8) (hk)) (fun _ h => h) (xp_0_5 G ad C it F FS RS RF MD MF cs)) (ms_rw (c_X4_learned_ok l G (ad 11 0 0) (ad 12 0) (B 0) (B 4) k N (fN) (hN8) (hk)) (fun _ _ h => h.trans (rd_learn hD hk)) (mp_0_4 G ad B wy) (mp_0_4 G ad (lzF B 0 (upd (B 0) 0 0)) wy)) (rel_th hR)
set_option maxHeartbeats 1000000 in
set_option maxRecDepth 100000 in
theorem st_needs (hR : Rel C it F RS RF MD MF B) (a : Int32) : stepX l G ad aK aV yX3_needs wsX3_needs yX4_needs wsX4_needs [.int a] C it F FS RS RF MD MF cs B wy := by
  obtain ⟨N, M, hD⟩ := hR.1
  obtain ⟨dN, fN, hN8⟩ := rd_hN hD
  obtain ⟨dM, fM, hM5⟩ := rd_hM hD
  have eN : C 5 2 = B 4 2 := dN.trans fN.symm
  have eM : C 5 3 = B 4 3 := dM.trans fM.symm
  cases hb : inR a 0 (C 5 2 - 1)
  · exact step_mk (xs_ro (c_X3_needs_bad l G (ad 0 0 0) (ad 1 0) (C 0) (ad 3 0) (C 5) F a (hb)) (fun _ h => h) (xp_0_5 G ad C it F FS RS RF MD MF cs)) (ms_rw (c_X4_needs_bad l G (ad 11 0 0) (ad 12 0) (B 0) (B 4) a (eN ▸ hb)) (fun _ _ h => h) (mp_0_4 G ad B wy) (mp_0_4 G ad (lzF B 0 (upd (B 0) 0 0)) wy)) (rel_th hR)
  · obtain ⟨k, hk, rfl⟩ := idx_nat dN (by omega) hb
    cases hC : cntD F k
    · exact step_mk (xs_ro (c_X3_needs_ok l G (ad 0 0 0) (ad 1 0) (C 0) (ad 3 0) (C 5) F k N (dN) (hN8) (hk) (hC)) (fun _ h => h) (xp_0_5 G ad C it F FS RS RF MD MF cs)) (ms_rw (c_X4_needs_ok l G (ad 11 0 0) (ad 12 0) (B 0) (B 4) k N (fN) (hN8) (hk) ((rd_cnt hD hk).symm.trans hC)) (fun _ _ h => h.trans (rd_need hD hk)) (mp_0_4 G ad B wy) (mp_0_4 G ad (lzF B 0 (upd (B 0) 0 0)) wy)) (rel_th hR)
    · exact step_mk (xs_ro (c_X3_needs_state l G (ad 0 0 0) (ad 1 0) (C 0) (ad 3 0) (C 5) F k N (dN) (hN8) (hk) (hC)) (fun _ h => h) (xp_0_5 G ad C it F FS RS RF MD MF cs)) (ms_rw (c_X4_needs_state l G (ad 11 0 0) (ad 12 0) (B 0) (B 4) k N (fN) (hN8) (hk) ((rd_cnt hD hk).symm.trans hC)) (fun _ _ h => h) (mp_0_4 G ad B wy) (mp_0_4 G ad (lzF B 0 (upd (B 0) 0 0)) wy)) (rel_th hR)
set_option maxHeartbeats 1000000 in
set_option maxRecDepth 100000 in
theorem st_clicks (hR : Rel C it F RS RF MD MF B) (a : Int32) : stepX l G ad aK aV yX3_clicks wsX3_clicks yX4_clicks wsX4_clicks [.int a] C it F FS RS RF MD MF cs B wy := by
  obtain ⟨N, M, hD⟩ := hR.1
  obtain ⟨dN, fN, hN8⟩ := rd_hN hD
  obtain ⟨dM, fM, hM5⟩ := rd_hM hD
  have eN : C 5 2 = B 4 2 := dN.trans fN.symm
  have eM : C 5 3 = B 4 3 := dM.trans fM.symm
  cases hb : inR a 0 (C 5 3 - 1)
  · exact step_mk (xs_ro (c_X3_clicks_bad l G (ad 0 0 0) (ad 1 0) (C 0) (ad 3 0) (C 5) F a (hb)) (fun _ h => h) (xp_0_5 G ad C it F FS RS RF MD MF cs)) (ms_rw (c_X4_clicks_bad l G (ad 11 0 0) (ad 12 0) (B 0) (B 4) a (eM ▸ hb)) (fun _ _ h => h) (mp_0_4 G ad B wy) (mp_0_4 G ad (lzF B 0 (upd (B 0) 0 0)) wy)) (rel_th hR)
  · obtain ⟨k, hk, rfl⟩ := idx_nat dM (by omega) hb
    exact step_mk (xs_ro (c_X3_clicks_ok l G (ad 0 0 0) (ad 1 0) (C 0) (ad 3 0) (C 5) F k N M (dN) (hN8) (dM) (hM5) (hk)) (fun _ h => h) (xp_0_5 G ad C it F FS RS RF MD MF cs)) (ms_rw (c_X4_clicks_ok l G (ad 11 0 0) (ad 12 0) (B 0) (B 4) k N M (fN) (hN8) (fM) (hM5) (hk)) (fun _ _ h => h.trans (rd_clkB hD hk).symm) (mp_0_4 G ad B wy) (mp_0_4 G ad (lzF B 0 (upd (B 0) 0 0)) wy)) (rel_th hR)
set_option maxHeartbeats 1000000 in
set_option maxRecDepth 100000 in
theorem st_visitor (hR : Rel C it F RS RF MD MF B) (a : Int32) (what : Int32) : stepX l G ad aK aV yX3_visitor wsX3_visitor yX4_visitor wsX4_visitor [.int a, .int what] C it F FS RS RF MD MF cs B wy := by
  obtain ⟨N, M, hD⟩ := hR.1
  obtain ⟨dN, fN, hN8⟩ := rd_hN hD
  obtain ⟨dM, fM, hM5⟩ := rd_hM hD
  have eN : C 5 2 = B 4 2 := dN.trans fN.symm
  have eM : C 5 3 = B 4 3 := dM.trans fM.symm
  cases hb : inR a 0 (C 5 3 - 1)
  · exact step_mk (xs_ro (c_X3_visitor_bad l G (ad 0 0 0) (ad 1 0) (C 0) (ad 3 0) (C 5) F a what (hb)) (fun _ h => h) (xp_0_5 G ad C it F FS RS RF MD MF cs)) (ms_rw (c_X4_visitor_bad l G (ad 11 0 0) (ad 12 0) (B 0) (B 4) a what (by rw [← eM, hb]; rfl)) (fun _ _ h => h) (mp_0_4 G ad B wy) (mp_0_4 G ad (lzF B 0 (upd (B 0) 0 0)) wy)) (rel_th hR)
  · obtain ⟨k, hk, rfl⟩ := idx_nat dM (by omega) hb
    cases hw : inR what 0 3
    · exact step_mk (xs_ro (c_X3_visitor_ok l G (ad 0 0 0) (ad 1 0) (C 0) (ad 3 0) (C 5) F k M what (dM) (hM5) (hk)) (fun _ h => h.trans (vis_bad hw)) (xp_0_5 G ad C it F FS RS RF MD MF cs)) (ms_rw (c_X4_visitor_bad l G (ad 11 0 0) (ad 12 0) (B 0) (B 4) (nI k) what (by rw [hw, Bool.and_false])) (fun _ _ h => h) (mp_0_4 G ad B wy) (mp_0_4 G ad (lzF B 0 (upd (B 0) 0 0)) wy)) (rel_th hR)
    · obtain ⟨w, hw4, rfl⟩ := in_nat (n := 3) (by decide) hw
      exact step_mk (xs_ro (c_X3_visitor_ok l G (ad 0 0 0) (ad 1 0) (C 0) (ad 3 0) (C 5) F k M (nI w) (dM) (hM5) (hk)) (fun _ h => h) (xp_0_5 G ad C it F FS RS RF MD MF cs)) (ms_rw (c_X4_visitor_ok l G (ad 11 0 0) (ad 12 0) (B 0) (B 4) k w M (fM) (hM5) (hk) (by omega)) (fun _ _ h => h.trans (rd_vis hD hk (by omega))) (mp_0_4 G ad B wy) (mp_0_4 G ad (lzF B 0 (upd (B 0) 0 0)) wy)) (rel_th hR)
set_option maxHeartbeats 1000000 in
set_option maxRecDepth 100000 in
theorem st_sees (hR : Rel C it F RS RF MD MF B) (a : Int32) (b : Int32) : stepX l G ad aK aV yX3_sees wsX3_sees yX4_sees wsX4_sees [.int a, .int b] C it F FS RS RF MD MF cs B wy := by
  obtain ⟨N, M, hD⟩ := hR.1
  obtain ⟨dN, fN, hN8⟩ := rd_hN hD
  obtain ⟨dM, fM, hM5⟩ := rd_hM hD
  have eN : C 5 2 = B 4 2 := dN.trans fN.symm
  have eM : C 5 3 = B 4 3 := dM.trans fM.symm
  cases hb : (inR a 0 (C 5 3 - 1) && inR b 0 (C 5 2 - 1))
  · exact step_mk (xs_ro (c_X3_sees_bad l G (ad 0 0 0) (ad 1 0) (C 0) (ad 3 0) (C 5) F a b (hb)) (fun _ h => h) (xp_0_5 G ad C it F FS RS RF MD MF cs)) (ms_rw (c_X4_sees_bad l G (ad 11 0 0) (ad 12 0) (B 0) (B 4) a b (eN ▸ eM ▸ hb)) (fun _ _ h => h) (mp_0_4 G ad B wy) (mp_0_4 G ad (lzF B 0 (upd (B 0) 0 0)) wy)) (rel_th hR)
  · obtain ⟨hb1, hb2⟩ := Bool.and_eq_true_iff.mp hb
    obtain ⟨v, hv, rfl⟩ := idx_nat dM (by omega) hb1
    obtain ⟨k, hk, rfl⟩ := idx_nat dN (by omega) hb2
    exact step_mk (xs_ro (c_X3_sees_ok l G (ad 0 0 0) (ad 1 0) (C 0) (ad 3 0) (C 5) F v k N M (dN) (hN8) (dM) (hM5) (hv) (hk)) (fun _ h => h) (xp_0_5 G ad C it F FS RS RF MD MF cs)) (ms_rw (c_X4_sees_ok l G (ad 11 0 0) (ad 12 0) (B 0) (B 4) v k N M (fN) (hN8) (fM) (hM5) (hv) (hk)) (fun _ _ h => h.trans (rd_see hD hk hv)) (mp_0_4 G ad B wy) (mp_0_4 G ad (lzF B 0 (upd (B 0) 0 0)) wy)) (rel_th hR)
set_option maxHeartbeats 1000000 in
set_option maxRecDepth 100000 in
theorem st_wrong (hR : Rel C it F RS RF MD MF B) (a : Int32) (set : Int32) : stepX l G ad aK aV yX3_wrong wsX3_wrong yX4_wrong wsX4_wrong [.int a, .int set] C it F FS RS RF MD MF cs B wy := by
  obtain ⟨N, M, hD⟩ := hR.1
  obtain ⟨dN, fN, hN8⟩ := rd_hN hD
  obtain ⟨dM, fM, hM5⟩ := rd_hM hD
  have eN : C 5 2 = B 4 2 := dN.trans fN.symm
  have eM : C 5 3 = B 4 3 := dM.trans fM.symm
  cases hb : (inR a 0 (C 5 3 - 1) && inR set 0 ((1 <<< (C 5 2 &&& 31)) - 1))
  · exact step_mk (xs_ro (c_X3_wrong_bad l G (ad 0 0 0) (ad 1 0) (C 0) (ad 3 0) (C 5) F a set (hb)) (fun _ h => h) (xp_0_5 G ad C it F FS RS RF MD MF cs)) (ms_rw (c_X4_wrong_bad l G (ad 11 0 0) (ad 12 0) (B 0) (B 4) a set (eN ▸ eM ▸ hb)) (fun _ _ h => h) (mp_0_4 G ad B wy) (mp_0_4 G ad (lzF B 0 (upd (B 0) 0 0)) wy)) (rel_th hR)
  · obtain ⟨hb1, hb2⟩ := Bool.and_eq_true_iff.mp hb
    obtain ⟨v, hv, rfl⟩ := idx_nat dM (by omega) hb1
    obtain ⟨k, -, hk, rfl⟩ := set_nat dN hN8 hb2
    exact step_mk (xs_ro (c_X3_wrong_ok l G (ad 0 0 0) (ad 1 0) (C 0) (ad 3 0) (C 5) F v (nI k) N M (dN) (hN8) (dM) (hM5) (hv) (hb2)) (fun _ h => h) (xp_0_5 G ad C it F FS RS RF MD MF cs)) (ms_rw (c_X4_wrong_ok l G (ad 11 0 0) (ad 12 0) (B 0) (B 4) v (nI k) N M (fN) (hN8) (fM) (hM5) (hv) (eN ▸ hb2)) (fun _ _ h => h.trans (rd_wrong hD hv hk).symm) (mp_0_4 G ad B wy) (mp_0_4 G ad (lzF B 0 (upd (B 0) 0 0)) wy)) (rel_th hR)
set_option maxHeartbeats 1000000 in
set_option maxRecDepth 100000 in
theorem st_guests (hR : Rel C it F RS RF MD MF B) (set : Int32) : stepX l G ad aK aV yX3_guests wsX3_guests yX4_guests wsX4_guests [.int set] C it F FS RS RF MD MF cs B wy := by
  obtain ⟨N, M, hD⟩ := hR.1
  obtain ⟨dN, fN, hN8⟩ := rd_hN hD
  obtain ⟨dM, fM, hM5⟩ := rd_hM hD
  have eN : C 5 2 = B 4 2 := dN.trans fN.symm
  have eM : C 5 3 = B 4 3 := dM.trans fM.symm
  cases hr : (decide (0 < C 5 2) && decide (0 < C 5 3))
  · exact step_mk (xs_ro (c_X3_guests_state l G (ad 0 0 0) (ad 1 0) (C 0) (ad 3 0) (C 5) F set (hr)) (fun _ h => h) (xp_0_5 G ad C it F FS RS RF MD MF cs)) (ms_rw (c_X4_guests_state l G (ad 11 0 0) (ad 12 0) (B 0) (B 4) set ((rd_read hD).symm.trans hr)) (fun _ _ h => h) (mp_0_4 G ad B wy) (mp_0_4 G ad (lzF B 0 (upd (B 0) 0 0)) wy)) (rel_th hR)
  · have hrm : decide (0 < B 4 0) = true := (rd_read hD).symm.trans hr
    cases hb : inR set 0 ((1 <<< (C 5 2 &&& 31)) - 1)
    · exact step_mk (xs_ro (c_X3_guests_bad l G (ad 0 0 0) (ad 1 0) (C 0) (ad 3 0) (C 5) F set (hr) (hb)) (fun _ h => h) (xp_0_5 G ad C it F FS RS RF MD MF cs)) (ms_rw (c_X4_guests_bad l G (ad 11 0 0) (ad 12 0) (B 0) (B 4) set (hrm) (eN ▸ hb)) (fun _ _ h => h) (mp_0_4 G ad B wy) (mp_0_4 G ad (lzF B 0 (upd (B 0) 0 0)) wy)) (rel_th hR)
    · obtain ⟨k, -, hk, rfl⟩ := set_nat dN hN8 hb
      exact step_mk (xs_rw (c_X3_guests_ok l G (ad 0 0 0) (ad 1 0) (C 0) (ad 3 0) (C 5) F (nI k) N M (dN) (hN8) (dM) (hM5) (hr) (hb)) (fun _ _ h => h) (xp_0_5 G ad C it F FS RS RF MD MF cs) (xp_0_5 G ad C it (lzF F 13 (fa_fill (fun v => wrbD (C 5) F v N) (F 13) M)) FS RS RF MD MF cs)) (ms_rw (c_X4_guests_ok l G (ad 11 0 0) (ad 12 0) (B 0) (B 4) (nI k) N M (fN) (hN8) (fM) (hM5) (hrm) (eN ▸ hb)) (fun _ _ h => h.trans (rd_gst hD hk).symm) (mp_0_4 G ad B wy) (mp_0_4 G ad (lzF B 0 (upd (B 0) 0 0)) wy)) (rel_13 hR)
set_option maxHeartbeats 1000000 in
set_option maxRecDepth 100000 in
theorem st_fewest (hR : Rel C it F RS RF MD MF B) (want : Int32) (what : Int32) : stepX l G ad aK aV yX3_fewest wsX3_fewest yX4_fewest wsX4_fewest [.int want, .int what] C it F FS RS RF MD MF cs B wy := by
  obtain ⟨N, M, hD⟩ := hR.1
  obtain ⟨dN, fN, hN8⟩ := rd_hN hD
  obtain ⟨dM, fM, hM5⟩ := rd_hM hD
  have eN : C 5 2 = B 4 2 := dN.trans fN.symm
  have eM : C 5 3 = B 4 3 := dM.trans fM.symm
  cases hr : (decide (0 < C 5 2) && decide (0 < C 5 3))
  · exact step_mk (xs_ro (c_X3_fewest_state l G (ad 0 0 0) (ad 1 0) (C 0) (ad 3 0) (C 5) F want what (hr)) (fun _ h => h) (xp_0_5 G ad C it F FS RS RF MD MF cs)) (ms_rw (c_X4_fewest_state l G (ad 11 0 0) (ad 12 0) (B 0) (B 4) want what ((rd_read hD).symm.trans hr)) (fun _ _ h => h) (mp_0_4 G ad B wy) (mp_0_4 G ad (lzF B 0 (upd (B 0) 0 0)) wy)) (rel_th hR)
  · have hrm : decide (0 < B 4 0) = true := (rd_read hD).symm.trans hr
    cases hb : (inR want 0 ((1 <<< (C 5 3 &&& 31)) - 1) && inR what 0 1)
    · exact step_mk (xs_ro (c_X3_fewest_bad l G (ad 0 0 0) (ad 1 0) (C 0) (ad 3 0) (C 5) F want what (hr) (hb)) (fun _ h => h) (xp_0_5 G ad C it F FS RS RF MD MF cs)) (ms_rw (c_X4_fewest_bad l G (ad 11 0 0) (ad 12 0) (B 0) (B 4) want what (hrm) (eM ▸ hb)) (fun _ _ h => h) (mp_0_4 G ad B wy) (mp_0_4 G ad (lzF B 0 (upd (B 0) 0 0)) wy)) (rel_th hR)
    · obtain ⟨hb1, hb2⟩ := Bool.and_eq_true_iff.mp hb
      exact step_mk (xs_rw (c_X3_fewest_ok l G (ad 0 0 0) (ad 1 0) (C 0) (ad 3 0) (C 5) F want what N M (dN) (hN8) (dM) (hM5) (hr) (hb1) (hb2)) (fun _ _ h => h) (xp_0_5 G ad C it F FS RS RF MD MF cs) (xp_0_5 G ad C it (lzF F 13 (fa_fill (fun v => wrbD (C 5) F v N) (F 13) M)) FS RS RF MD MF cs)) (ms_rw (c_X4_fewest_ok l G (ad 11 0 0) (ad 12 0) (B 0) (B 4) want what N M (fN) (hN8) (fM) (hM5) (hrm) (eM ▸ hb1) (hb2)) (fun _ _ h => h.trans (size_eq hb2 (rd_few hD _ _ _ (all_1 hN8)).1 (few_form hD _ _ (all_1 hN8)))) (mp_0_4 G ad B wy) (mp_0_4 G ad (lzF B 0 (upd (B 0) 0 0)) wy)) (rel_13 hR)
set_option maxHeartbeats 1000000 in
set_option maxRecDepth 100000 in
theorem st_harsh (hR : Rel C it F RS RF MD MF B) (want : Int32) (set : Int32) : stepX l G ad aK aV yX3_harsh wsX3_harsh yX4_harsh wsX4_harsh [.int want, .int set] C it F FS RS RF MD MF cs B wy := by
  obtain ⟨N, M, hD⟩ := hR.1
  obtain ⟨dN, fN, hN8⟩ := rd_hN hD
  obtain ⟨dM, fM, hM5⟩ := rd_hM hD
  have eN : C 5 2 = B 4 2 := dN.trans fN.symm
  have eM : C 5 3 = B 4 3 := dM.trans fM.symm
  cases hr : (decide (0 < C 5 2) && decide (0 < C 5 3))
  · exact step_mk (xs_ro (c_X3_harsh_state l G (ad 0 0 0) (ad 1 0) (C 0) (ad 3 0) (C 5) F want set (hr)) (fun _ h => h) (xp_0_5 G ad C it F FS RS RF MD MF cs)) (ms_rw (c_X4_harsh_state l G (ad 11 0 0) (ad 12 0) (B 0) (B 4) want set ((rd_read hD).symm.trans hr)) (fun _ _ h => h) (mp_0_4 G ad B wy) (mp_0_4 G ad (lzF B 0 (upd (B 0) 0 0)) wy)) (rel_th hR)
  · have hrm : decide (0 < B 4 0) = true := (rd_read hD).symm.trans hr
    cases hb : (inR want 0 ((1 <<< (C 5 3 &&& 31)) - 1) && inR set 0 ((1 <<< (C 5 2 &&& 31)) - 1))
    · exact step_mk (xs_ro (c_X3_harsh_bad l G (ad 0 0 0) (ad 1 0) (C 0) (ad 3 0) (C 5) F want set (hr) (hb)) (fun _ h => h) (xp_0_5 G ad C it F FS RS RF MD MF cs)) (ms_rw (c_X4_harsh_bad l G (ad 11 0 0) (ad 12 0) (B 0) (B 4) want set (hrm) (eN ▸ eM ▸ hb)) (fun _ _ h => h) (mp_0_4 G ad B wy) (mp_0_4 G ad (lzF B 0 (upd (B 0) 0 0)) wy)) (rel_th hR)
    · obtain ⟨hb1, hb2⟩ := Bool.and_eq_true_iff.mp hb
      obtain ⟨j, -, hj, rfl⟩ := set_nat dM (by omega) hb1
      obtain ⟨k, -, hk, rfl⟩ := set_nat dN hN8 hb2
      exact step_mk (xs_ro (c_X3_harsh_ok l G (ad 0 0 0) (ad 1 0) (C 0) (ad 3 0) (C 5) F (nI j) (nI k) N M (dN) (hN8) (dM) (hM5) (hr) (hb1) (hb2)) (fun _ h => h) (xp_0_5 G ad C it F FS RS RF MD MF cs)) (ms_rw (c_X4_harsh_ok l G (ad 11 0 0) (ad 12 0) (B 0) (B 4) (nI j) (nI k) N M (fN) (hN8) (fM) (hM5) (hrm) (eM ▸ hb1) (eN ▸ hb2)) (fun _ _ h => h.trans (rd_max hD hk (Nat.le_refl M)).2.symm) (mp_0_4 G ad B wy) (mp_0_4 G ad (lzF B 0 (upd (B 0) 0 0)) wy)) (rel_th hR)
set_option maxHeartbeats 1000000 in
set_option maxRecDepth 100000 in
theorem st_keen (hR : Rel C it F RS RF MD MF B) (what : Int32) : stepX l G ad aK aV yX3_keen wsX3_keen yX4_keen wsX4_keen [.int what] C it F FS RS RF MD MF cs B wy := by
  obtain ⟨N, M, hD⟩ := hR.1
  obtain ⟨dN, fN, hN8⟩ := rd_hN hD
  obtain ⟨dM, fM, hM5⟩ := rd_hM hD
  have eN : C 5 2 = B 4 2 := dN.trans fN.symm
  have eM : C 5 3 = B 4 3 := dM.trans fM.symm
  cases hr : (decide (0 < C 5 2) && decide (0 < C 5 3))
  · exact step_mk (xs_ro (c_X3_keen_state l G (ad 0 0 0) (ad 1 0) (C 0) (ad 3 0) (C 5) F what (hr)) (fun _ h => h) (xp_0_5 G ad C it F FS RS RF MD MF cs)) (ms_rw (c_X4_keen_state l G (ad 11 0 0) (ad 12 0) (B 0) (B 4) what ((rd_read hD).symm.trans hr)) (fun _ _ h => h) (mp_0_4 G ad B wy) (mp_0_4 G ad (lzF B 0 (upd (B 0) 0 0)) wy)) (rel_th hR)
  · have hrm : decide (0 < B 4 0) = true := (rd_read hD).symm.trans hr
    cases hb : inR what 0 1
    · exact step_mk (xs_ro (c_X3_keen_bad l G (ad 0 0 0) (ad 1 0) (C 0) (ad 3 0) (C 5) F what (hr) (hb)) (fun _ h => h) (xp_0_5 G ad C it F FS RS RF MD MF cs)) (ms_rw (c_X4_keen_bad l G (ad 11 0 0) (ad 12 0) (B 0) (B 4) what (hrm) (hb)) (fun _ _ h => h) (mp_0_4 G ad B wy) (mp_0_4 G ad (lzF B 0 (upd (B 0) 0 0)) wy)) (rel_th hR)
    · exact step_mk (xs_ro (c_X3_keen_ok l G (ad 0 0 0) (ad 1 0) (C 0) (ad 3 0) (C 5) F what N M (dN) (hN8) (dM) (hM5) (hr) (hb)) (fun _ h => h) (xp_0_5 G ad C it F FS RS RF MD MF cs)) (ms_rw (c_X4_keen_ok l G (ad 11 0 0) (ad 12 0) (B 0) (B 4) what N M (fN) (hN8) (fM) (hM5) (hrm) (hb)) (fun _ _ h => h.trans (keen_eq hD what)) (mp_0_4 G ad B wy) (mp_0_4 G ad (lzF B 0 (upd (B 0) 0 0)) wy)) (rel_th hR)
set_option maxHeartbeats 1000000 in
set_option maxRecDepth 100000 in
theorem st_tells (hR : Rel C it F RS RF MD MF B) (set : Int32) (what : Int32) : stepX l G ad aK aV yX3_tells wsX3_tells yX4_tells wsX4_tells [.int set, .int what] C it F FS RS RF MD MF cs B wy := by
  obtain ⟨N, M, hD⟩ := hR.1
  obtain ⟨dN, fN, hN8⟩ := rd_hN hD
  obtain ⟨dM, fM, hM5⟩ := rd_hM hD
  have eN : C 5 2 = B 4 2 := dN.trans fN.symm
  have eM : C 5 3 = B 4 3 := dM.trans fM.symm
  cases hr : (decide (0 < C 5 2) && decide (0 < C 5 3))
  · exact step_mk (xs_ro (c_X3_tells_state l G (ad 0 0 0) (ad 1 0) (C 0) (ad 3 0) (C 5) F set what (hr)) (fun _ h => h) (xp_0_5 G ad C it F FS RS RF MD MF cs)) (ms_rw (c_X4_tells_state l G (ad 11 0 0) (ad 12 0) (B 0) (B 4) set what ((rd_read hD).symm.trans hr)) (fun _ _ h => h) (mp_0_4 G ad B wy) (mp_0_4 G ad (lzF B 0 (upd (B 0) 0 0)) wy)) (rel_th hR)
  · have hrm : decide (0 < B 4 0) = true := (rd_read hD).symm.trans hr
    cases hb : (inR set 0 ((1 <<< (C 5 2 &&& 31)) - 1) && inR what 0 1)
    · exact step_mk (xs_ro (c_X3_tells_bad l G (ad 0 0 0) (ad 1 0) (C 0) (ad 3 0) (C 5) F set what (hr) (hb)) (fun _ h => h) (xp_0_5 G ad C it F FS RS RF MD MF cs)) (ms_rw (c_X4_tells_bad l G (ad 11 0 0) (ad 12 0) (B 0) (B 4) set what (hrm) (eN ▸ hb)) (fun _ _ h => h) (mp_0_4 G ad B wy) (mp_0_4 G ad (lzF B 0 (upd (B 0) 0 0)) wy)) (rel_th hR)
    · obtain ⟨hb1, hb2⟩ := Bool.and_eq_true_iff.mp hb
      exact step_mk (xs_ro (c_X3_tells_ok l G (ad 0 0 0) (ad 1 0) (C 0) (ad 3 0) (C 5) F set what N M (dN) (hN8) (dM) (hM5) (hr) (hb1) (hb2)) (fun _ h => tells_eq hD h.1 h.2) (xp_0_5 G ad C it F FS RS RF MD MF cs)) (ms_rw (c_X4_tells_ok l G (ad 11 0 0) (ad 12 0) (B 0) (B 4) set what N M (fN) (hN8) (fM) (hM5) (hrm) (eN ▸ hb1) (hb2)) (fun _ _ h => h) (mp_0_4 G ad B wy) (mp_0_4 G ad (lzF B 0 (upd (B 0) 0 0)) wy)) (rel_th hR)
set_option maxHeartbeats 1000000 in
set_option maxRecDepth 100000 in
theorem st_save (hR : Rel C it F RS RF MD MF B) (set : Int32) (what : Int32) : stepX l G ad aK aV yX3_save wsX3_save yX4_save wsX4_save [.int set, .int what] C it F FS RS RF MD MF cs B wy := by
  obtain ⟨N, M, hD⟩ := hR.1
  obtain ⟨dN, fN, hN8⟩ := rd_hN hD
  obtain ⟨dM, fM, hM5⟩ := rd_hM hD
  have eN : C 5 2 = B 4 2 := dN.trans fN.symm
  have eM : C 5 3 = B 4 3 := dM.trans fM.symm
  cases hr : (decide (0 < C 5 2) && decide (0 < C 5 3))
  · exact step_mk (xs_ro (c_X3_save_state l G (ad 0 0 0) (ad 1 0) (C 0) (ad 3 0) (C 5) F set what (hr)) (fun _ h => h) (xp_0_5 G ad C it F FS RS RF MD MF cs)) (ms_rw (c_X4_save_state l G (ad 11 0 0) (ad 12 0) (B 0) (B 4) set what ((rd_read hD).symm.trans hr)) (fun _ _ h => h) (mp_0_4 G ad B wy) (mp_0_4 G ad (lzF B 0 (upd (B 0) 0 0)) wy)) (rel_th hR)
  · have hrm : decide (0 < B 4 0) = true := (rd_read hD).symm.trans hr
    cases hb : (inR set 0 ((1 <<< (C 5 2 &&& 31)) - 1) && inR what 0 1)
    · exact step_mk (xs_ro (c_X3_save_bad l G (ad 0 0 0) (ad 1 0) (C 0) (ad 3 0) (C 5) F set what (hr) (hb)) (fun _ h => h) (xp_0_5 G ad C it F FS RS RF MD MF cs)) (ms_rw (c_X4_save_bad l G (ad 11 0 0) (ad 12 0) (B 0) (B 4) set what (hrm) (eN ▸ hb)) (fun _ _ h => h) (mp_0_4 G ad B wy) (mp_0_4 G ad (lzF B 0 (upd (B 0) 0 0)) wy)) (rel_th hR)
    · obtain ⟨hb1, hb2⟩ := Bool.and_eq_true_iff.mp hb
      obtain ⟨k, -, hk, rfl⟩ := set_nat dN hN8 hb1
      exact step_mk (xs_rw (c_X3_save_ok l G (ad 0 0 0) (ad 1 0) (C 0) (ad 3 0) (C 5) F k what N M (dN) (hN8) (dM) (hM5) (hr) (hk) (hb1) (hb2)) (fun _ _ h => h.trans (by rw [few_13])) (xp_0_5 G ad C it F FS RS RF MD MF cs) (xp_0_5 G ad C it (lzF F 13 (fa_fill (fun v => wrbD (C 5) (lzF F 13 (fa_fill (fun v => wrbD (C 5) F v N) (F 13) M)) v N) (fa_fill (fun v => wrbD (C 5) F v N) (F 13) M) M)) FS RS RF MD MF cs)) (ms_rw (c_X4_save_ok l G (ad 11 0 0) (ad 12 0) (B 0) (B 4) k what N M (fN) (hN8) (fM) (hM5) (hrm) (hk) (eN ▸ hb1) (hb2)) (fun _ _ h => h.trans (save_eq hD hk hb2)) (mp_0_4 G ad B wy) (mp_0_4 G ad (lzF B 0 (upd (B 0) 0 0)) wy)) (rel_13 hR)
set_option maxHeartbeats 1000000 in
set_option maxRecDepth 100000 in
theorem st_trace (hR : Rel C it F RS RF MD MF B) (i : Int32) : stepX l G ad aK aV yX3_trace wsX3_trace yX4_trace wsX4_trace [.int i] C it F FS RS RF MD MF cs B wy := by
  obtain ⟨T, hT16, xT, mT, hT⟩ := hR.2.2.1
  have eT : C 0 11 = B 0 23 := xT.trans mT.symm
  cases hb : inR i 0 (C 0 11 - 1)
  · exact step_mk (xs_ro (c_X3_trace_bad l G (ad 0 0 0) (ad 1 0) (C 0) (C 8) i (hb)) (fun _ h => h) (xp_0_12 G ad C it F FS RS RF MD MF cs)) (ms_rw (c_X4_trace_bad l G (ad 11 0 0) (ad 12 0) (B 0) (B 11) i (eT ▸ hb)) (fun _ _ h => h) (mp_0_12 G ad B wy) (mp_0_12 G ad (lzF B 0 (upd (B 0) 0 0)) wy)) (rel_th hR)
  · obtain ⟨k, hk, rfl⟩ := idx_nat xT (by omega) hb
    exact step_mk (xs_ro (c_X3_trace_ok l G (ad 0 0 0) (ad 1 0) (C 0) (C 8) k T (xT) (hT16) (hk)) (fun _ h => h) (xp_0_12 G ad C it F FS RS RF MD MF cs)) (ms_rw (c_X4_trace_ok l G (ad 11 0 0) (ad 12 0) (B 0) (B 11) k T (mT) (hT16) (hk)) (fun _ _ h => h.trans (hT k hk).symm) (mp_0_12 G ad B wy) (mp_0_12 G ad (lzF B 0 (upd (B 0) 0 0)) wy)) (rel_th hR)
set_option maxHeartbeats 1000000 in
set_option maxRecDepth 100000 in
theorem st_as (hR : Rel C it F RS RF MD MF B) (a : Int32) (k : Int32) : stepX l G ad aK aV yX3_as wsX3_as yX4_as wsX4_as [.int a, .int k] C it F FS RS RF MD MF cs B wy := by
  obtain ⟨N, M, hD⟩ := hR.1
  obtain ⟨dN, fN, hN8⟩ := rd_hN hD
  obtain ⟨dM, fM, hM5⟩ := rd_hM hD
  have eN : C 5 2 = B 4 2 := dN.trans fN.symm
  have eM : C 5 3 = B 4 3 := dM.trans fM.symm
  cases hb : (inR a 0 (C 5 2 - 1) && inR k 0 5)
  · exact step_mk (xs_ro (c_X3_as_bad l G (ad 0 0 0) (ad 1 0) (C 0) (ad 3 0) (C 5) F a k (hb)) (fun _ h => h) (xp_0_5 G ad C it F FS RS RF MD MF cs)) (ms_rw (c_X4_as_bad l G (ad 11 0 0) (ad 12 0) (B 0) (B 4) a k (eN ▸ hb)) (fun _ _ h => h) (mp_0_4 G ad B wy) (mp_0_4 G ad (lzF B 0 (upd (B 0) 0 0)) wy)) (rel_th hR)
  · obtain ⟨hb1, hb2⟩ := Bool.and_eq_true_iff.mp hb
    obtain ⟨s, hs, rfl⟩ := idx_nat dN (by omega) hb1
    exact step_mk (xs_rw (c_X3_as_ok l G (ad 0 0 0) (ad 1 0) (C 0) (ad 3 0) (C 5) F s N k (dN) (hN8) (hs) (hb2)) (fun _ _ h => h) (xp_0_5 G ad C it F FS RS RF MD MF cs) (xp_0_5 G ad (lzF C 0 (upd (C 0) 3 (if ofK (F 4 s) k = true then 0 else 3))) it F FS RS RF MD MF cs)) (ms_rw (c_X4_as_ok l G (ad 11 0 0) (ad 12 0) (B 0) (B 4) s N k (fN) (hN8) (hs) (hb2)) (fun _ _ h => h.trans (by rw [rd_of hD hs hb2])) (mp_0_4 G ad B wy) (mp_0_4 G ad (lzF B 0 (upd (upd (B 0) 0 0) 1 (if isOfM ((B 4) (4 + 5 * s)) k = true then 0 else 3))) wy)) (rel_find hR (by rw [rd_of hD hs hb2]))
end STP
