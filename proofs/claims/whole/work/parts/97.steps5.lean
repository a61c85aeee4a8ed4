/-! steps of slips and texts -/
theorem xp_0_3_4_5_6_7 (G : lzG) (ad : Nat → Nat → Nat → Nat) (C it F FS RS : Nat → Nat → Int32) (RF : Nat → Nat → Nat → Int32) (MD : Nat → Nat → Int32) (MF : Nat → Nat → Nat → Int32) (cs : Nat → Int64) : (XW G ad C it F FS RS RF MD MF cs).Perm ((lzX (ad 0 0 0) (ad 1 0) (C 0) ++ (lzTp (ad 1 0 4) (ad 2 0) (C 3) ++ (lzI G (ad 2 0 0) 120 (C 4) ++ (lzDoor G (ad 1 0 6) (ad 3 0) (C 5) F ++ (lzDoor G (ad 1 0 7) (ad 4 0) (C 6) FS ++ (lzAc (ad 1 0 8) (ad 5 0) (C 7))))))) ++ List.flatten [lzI G (ad 1 0 1) 8 (C 1), lzI G (ad 1 0 2) 8 (C 2), lzQ G 3 (ad 5 0 0) 24 (fun i => some (ad 6 0 i)), ringW G (ad 6 0) (ad 7) RS RF, lzQ G 3 (ad 1 0 9) 2 (fun i => some (ad 9 0 i)), mapI (fun i => lzDoor G (ad 9 0 i) (ad 10 i) (MD i) (MF i)) 2, lzI G (ad 1 0 10) 16 (C 8), lzL G (ad 1 0 12) 9 cs, lzQ G 4 (ad 1 0 0) 8 (fun i => some (ad 8 0 i)), mapI (fun i => lzI G (ad 8 0 i) 40 (it i)) 8]) := xw_perm (L := [lzX (ad 0 0 0) (ad 1 0) (C 0), lzTp (ad 1 0 4) (ad 2 0) (C 3), lzI G (ad 2 0 0) 120 (C 4), lzDoor G (ad 1 0 6) (ad 3 0) (C 5) F, lzDoor G (ad 1 0 7) (ad 4 0) (C 6) FS, lzAc (ad 1 0 8) (ad 5 0) (C 7)]) (L' := [lzI G (ad 1 0 1) 8 (C 1), lzI G (ad 1 0 2) 8 (C 2), lzQ G 3 (ad 5 0 0) 24 (fun i => some (ad 6 0 i)), ringW G (ad 6 0) (ad 7) RS RF, lzQ G 3 (ad 1 0 9) 2 (fun i => some (ad 9 0 i)), mapI (fun i => lzDoor G (ad 9 0 i) (ad 10 i) (MD i) (MF i)) 2, lzI G (ad 1 0 10) 16 (C 8), lzL G (ad 1 0 12) 9 cs, lzQ G 4 (ad 1 0 0) 8 (fun i => some (ad 8 0 i)), mapI (fun i => lzI G (ad 8 0 i) 40 (it i)) 8]) [0, 3, 4, 5, 6, 7] [1, 2, 8, 9, 10, 11, 12, 13, 14, 15] rfl (by decide) (by simp only [List.flatten_cons, List.flatten_nil, List.append_nil])
theorem xp_0_5_13 (G : lzG) (ad : Nat → Nat → Nat → Nat) (C it F FS RS : Nat → Nat → Int32) (RF : Nat → Nat → Nat → Int32) (MD : Nat → Nat → Int32) (MF : Nat → Nat → Nat → Int32) (cs : Nat → Int64) : (XW G ad C it F FS RS RF MD MF cs).Perm ((lzX (ad 0 0 0) (ad 1 0) (C 0) ++ (lzDoor G (ad 1 0 6) (ad 3 0) (C 5) F ++ (lzL G (ad 1 0 12) 9 cs))) ++ List.flatten [lzI G (ad 1 0 1) 8 (C 1), lzI G (ad 1 0 2) 8 (C 2), lzTp (ad 1 0 4) (ad 2 0) (C 3), lzI G (ad 2 0 0) 120 (C 4), lzDoor G (ad 1 0 7) (ad 4 0) (C 6) FS, lzAc (ad 1 0 8) (ad 5 0) (C 7), lzQ G 3 (ad 5 0 0) 24 (fun i => some (ad 6 0 i)), ringW G (ad 6 0) (ad 7) RS RF, lzQ G 3 (ad 1 0 9) 2 (fun i => some (ad 9 0 i)), mapI (fun i => lzDoor G (ad 9 0 i) (ad 10 i) (MD i) (MF i)) 2, lzI G (ad 1 0 10) 16 (C 8), lzQ G 4 (ad 1 0 0) 8 (fun i => some (ad 8 0 i)), mapI (fun i => lzI G (ad 8 0 i) 40 (it i)) 8]) := xw_perm (L := [lzX (ad 0 0 0) (ad 1 0) (C 0), lzDoor G (ad 1 0 6) (ad 3 0) (C 5) F, lzL G (ad 1 0 12) 9 cs]) (L' := [lzI G (ad 1 0 1) 8 (C 1), lzI G (ad 1 0 2) 8 (C 2), lzTp (ad 1 0 4) (ad 2 0) (C 3), lzI G (ad 2 0 0) 120 (C 4), lzDoor G (ad 1 0 7) (ad 4 0) (C 6) FS, lzAc (ad 1 0 8) (ad 5 0) (C 7), lzQ G 3 (ad 5 0 0) 24 (fun i => some (ad 6 0 i)), ringW G (ad 6 0) (ad 7) RS RF, lzQ G 3 (ad 1 0 9) 2 (fun i => some (ad 9 0 i)), mapI (fun i => lzDoor G (ad 9 0 i) (ad 10 i) (MD i) (MF i)) 2, lzI G (ad 1 0 10) 16 (C 8), lzQ G 4 (ad 1 0 0) 8 (fun i => some (ad 8 0 i)), mapI (fun i => lzI G (ad 8 0 i) 40 (it i)) 8]) [0, 5, 13] [1, 2, 3, 4, 6, 7, 8, 9, 10, 11, 12, 14, 15] rfl (by decide) (by simp only [List.flatten_cons, List.flatten_nil, List.append_nil])
theorem mp_0_4_5_8 (G : lzG) (ad : Nat → Nat → Nat → Nat) (B : Nat → Nat → Int32) (wy : Nat → Int64) : (MW G ad B wy).Perm ((lzM (ad 11 0 0) (ad 12 0) (B 0) ++ (lzI G (ad 12 0 5) 64 (B 4) ++ (lzI G (ad 12 0 6) 64 (B 5) ++ (lzI G (ad 12 0 10) 120 (B 8))))) ++ List.flatten [lzI G (ad 12 0 2) 8 (B 1), lzI G (ad 12 0 3) 8 (B 2), lzI G (ad 12 0 4) 320 (B 3), lzI G (ad 12 0 7) 64 (B 6), lzI G (ad 12 0 8) 1536 (B 7), lzL G (ad 12 0 19) 9 wy, lzZ G (ad 12 0 20) 2 (B 9), lzI G (ad 12 0 21) 128 (B 10), lzI G (ad 12 0 22) 16 (B 11)]) := mw_perm (L := [lzM (ad 11 0 0) (ad 12 0) (B 0), lzI G (ad 12 0 5) 64 (B 4), lzI G (ad 12 0 6) 64 (B 5), lzI G (ad 12 0 10) 120 (B 8)]) (L' := [lzI G (ad 12 0 2) 8 (B 1), lzI G (ad 12 0 3) 8 (B 2), lzI G (ad 12 0 4) 320 (B 3), lzI G (ad 12 0 7) 64 (B 6), lzI G (ad 12 0 8) 1536 (B 7), lzL G (ad 12 0 19) 9 wy, lzZ G (ad 12 0 20) 2 (B 9), lzI G (ad 12 0 21) 128 (B 10), lzI G (ad 12 0 22) 16 (B 11)]) [0, 4, 5, 8] [1, 2, 3, 6, 7, 9, 10, 11, 12] rfl (by decide) (by simp only [List.flatten_cons, List.flatten_nil, List.append_nil])
theorem mp_0_4_9 (G : lzG) (ad : Nat → Nat → Nat → Nat) (B : Nat → Nat → Int32) (wy : Nat → Int64) : (MW G ad B wy).Perm ((lzM (ad 11 0 0) (ad 12 0) (B 0) ++ (lzI G (ad 12 0 5) 64 (B 4) ++ (lzL G (ad 12 0 19) 9 wy))) ++ List.flatten [lzI G (ad 12 0 2) 8 (B 1), lzI G (ad 12 0 3) 8 (B 2), lzI G (ad 12 0 4) 320 (B 3), lzI G (ad 12 0 6) 64 (B 5), lzI G (ad 12 0 7) 64 (B 6), lzI G (ad 12 0 8) 1536 (B 7), lzI G (ad 12 0 10) 120 (B 8), lzZ G (ad 12 0 20) 2 (B 9), lzI G (ad 12 0 21) 128 (B 10), lzI G (ad 12 0 22) 16 (B 11)]) := mw_perm (L := [lzM (ad 11 0 0) (ad 12 0) (B 0), lzI G (ad 12 0 5) 64 (B 4), lzL G (ad 12 0 19) 9 wy]) (L' := [lzI G (ad 12 0 2) 8 (B 1), lzI G (ad 12 0 3) 8 (B 2), lzI G (ad 12 0 4) 320 (B 3), lzI G (ad 12 0 6) 64 (B 5), lzI G (ad 12 0 7) 64 (B 6), lzI G (ad 12 0 8) 1536 (B 7), lzI G (ad 12 0 10) 120 (B 8), lzZ G (ad 12 0 20) 2 (B 9), lzI G (ad 12 0 21) 128 (B 10), lzI G (ad 12 0 22) 16 (B 11)]) [0, 4, 9] [1, 2, 3, 5, 6, 7, 8, 10, 11, 12] rfl (by decide) (by simp only [List.flatten_cons, List.flatten_nil, List.append_nil])
section DRL
variable {l : Launch} {C it F FS RS : Nat → Nat → Int32} {RF : Nat → Nat → Nat → Int32} {MD : Nat → Nat → Int32} {MF : Nat → Nat → Nat → Int32} {cs : Nat → Int64} {B : Nat → Nat → Int32} {wy : Nat → Int64}
theorem door_rel (hR : Rel C it F RS RF MD MF B) {N M L : Nat} {r r2 : Int32} {u9 : (Int32 × Nat) × ((Nat → Int32) × (Nat → Nat → Int32))} {v9 : (Nat → Int32) × ((Nat → Int32) × (Nat → Int32))} (hD : relD N M (C 5) F (B 4)) (hx : drC (C 4) L (clrF FS) u9.1.1 u9.1 u9.2.1 u9.2.2) (hr : r = (if u9.1.1 = 0 then u9.2.1 2 else -1000100 - nI u9.1.2)) (hm : drM (B 0) (B 4) (C 4) L r2 v9.1 v9.2.1) : r = r2 ∧ RelS ((fun u9 : (Int32 × Nat) × ((Nat → Int32) × (Nat → Nat → Int32)) => (((lzF (lzF (lzF (lzF (lzF C 0 (upd (C 0) 5 (if u9.1.1 = 0 then C 0 5 else u9.1.1))) 3 (upd (upd (upd (C 3) 2 (nI u9.1.2)) 3 u9.1.1) 1 0)) 5 (if u9.1.1 = 0 then tfS u9.2.1 (C 5) else C 5)) 6 u9.2.1) 7 (upd (C 7) 2 (if u9.1.1 = 0 then 0 else C 7 2))), it, (if u9.1.1 = 0 then tfF u9.2.2 F else F), u9.2.2, RS, RF, MD, MF, cs) : lzSx)) u9, (((lzF (lzF (lzF B 0 v9.1) 4 v9.2.1) 5 v9.2.2), wy) : lzSm)) := by
  obtain ⟨h1, h2, h3, ⟨L0, g1, g2, g3, g5, g4⟩, hrow, ⟨X, K, hX, hK, v1, v2, b9, hA⟩, him⟩ := hR
  obtain ⟨J, W, c1, c2, c3, -, c4⟩ := hx
  obtain ⟨J2, V, m1, m2, m3, m4, m5, m6⟩ := hm
  have eJ := stS_1 c1 m1
  subst eJ
  obtain ⟨s1, s2⟩ := stop_eq c2 m2
  have ez : u9.1 = finZ L (yvs (C 4) L J V) := c3.trans s1
  have tp : ∃ L1 : Nat, L1 ≤ 120 ∧ upd (upd (upd (C 3) 2 (nI u9.1.2)) 3 u9.1.1) 1 0 1 = nI L1 ∧ v9.1 11 = nI L1 ∧ C 4 = B 8 ∧ ∀ k : Nat, k < L1 → inR (C 4 k) 0 255 = true := ⟨0, by decide, rfl, m5, g5, fun k hk => absurd hk (Nat.not_lt_zero _)⟩
  obtain ⟨T, t1, t2, t3, t4⟩ := h3
  have tr : ∃ T : Nat, T ≤ 16 ∧ C 0 11 = nI T ∧ v9.1 23 = nI T ∧ ∀ k : Nat, k < T → C 8 k = B 11 k := ⟨T, t1, t2, (m3 23 (by decide)).trans t3, t4⟩
  by_cases h0 : u9.1.1 = 0
  · obtain ⟨p1, p2⟩ := c4 h0
    have f0 : (finZ L (yvs (C 4) L J V)).1 = 0 := by rw [← ez]; exact h0
    have hWV := s2 f0
    subst hWV
    have hz : (yvs (C 4) L J W).1 = 0 := by rw [← c3]; exact h0
    rcases m6 with ⟨n1, -⟩ | ⟨-, n2, n3, n4, n5, n6, n7, n8⟩
    · exact absurd f0 n1
    have hrd := relD_text c1.1 m2.1 hz p1 p2 n7 n8
    rw [if_pos h0] at hr
    refine ⟨by rw [hr, n2]; exact p1.2.2.1, ?_⟩
    unfold RelS
    simp only [h0, if_true]
    exact ⟨⟨J, W, relD_take (X := C 5) (Y := F) hrd (fun _ _ => rfl)⟩, ⟨h2.1.trans (m3 1 (by decide)).symm, h2.2.trans n5.symm⟩, tr, (by rw [h0] at tp; exact tp), hrow, ⟨X, 0, hX, by omega, v1, rfl, n6, fun i hi => absurd hi (Nat.not_lt_zero _)⟩, him⟩
  · have f0 : ¬ (finZ L (yvs (C 4) L J V)).1 = 0 := by rw [← ez]; exact h0
    rcases m6 with ⟨-, n2, n3, n4, n5⟩ | ⟨n1, -⟩
    · rw [if_neg h0] at hr
      refine ⟨by rw [hr, n2, ez], ?_⟩
      unfold RelS
      simp only [h0, if_false]
      exact ⟨⟨N, M, by show relD N M (C 5) F v9.2.1; rw [n5]; exact hD⟩, ⟨h2.1.trans (m3 1 (by decide)).symm, by show u9.1.1 = v9.1 18; rw [n3, ez]⟩, tr, tp, hrow, ⟨X, K, hX, hK, v1, v2, n4.trans b9, hA⟩, him⟩
    · exact absurd n1 f0
end DRL
section SLG
variable {l : Launch} {G : lzG} {ad : Nat → Nat → Nat → Nat} {aK aV : Nat} {y yx ym : MethodName} {wl wx wm : List Cond} {rm : Room} {As : List Value} {C it F FS RS : Nat → Nat → Int32} {RF : Nat → Nat → Nat → Int32} {MD : Nat → Nat → Int32} {MF : Nat → Nat → Nat → Int32} {cs : Nat → Int64} {B : Nat → Nat → Int32} {wy : Nat → Int64}
/-- a step of longs -/
def XSl (l : Launch) (G : lzG) (ad : Nat → Nat → Nat → Nat) (aK aV : Nat) (y : MethodName) (wl : List Cond) (As : List Value) (u : lzSx) (r : Int64) (u2 : lzSx) : Prop :=
  Met l y wl lzRm (va_Pc (.ref (ad 0 0 0) :: As) (rwsP G (XWs G ad u) aK aV)) (va_Ql (S := Unit) (fun r' _ => r' = r) (rwB G (fun _ => XWs G ad u2)) (lzA (XWs G ad u))) 0 0 (lzA (XWs G ad u))
def MSl (l : Launch) (G : lzG) (ad : Nat → Nat → Nat → Nat) (aK aV : Nat) (y : MethodName) (wl : List Cond) (As : List Value) (v : lzSm) (r : Int64) (v2 : lzSm) : Prop :=
  Met l y wl lzRm (va_Pc (.ref (ad 11 0 0) :: As) (rwsP G (MWs G ad v) aK aV)) (va_Ql (S := Unit) (fun r' _ => r' = r) (rwB G (fun _ => MWs G ad v2)) (lzA (MWs G ad v))) 0 0 (lzA (MWs G ad v))
theorem xs_rol {post : Int64 → Prop} {wc wr : va_W} {r0 : Int64} (h : Met l y wl rm (va_Pc (.ref (ad 0 0 0) :: As) (roP G wc)) (vp_Sl post) 0 0 (fun _ => False)) (hr : ∀ r, post r → r = r0) (hp : (XW G ad C it F FS RS RF MD MF cs).Perm (wc ++ wr)) (hf : rm.frames ≤ 8 := by decide) (hl : rm.locals ≤ 200 := by decide) (hc : rm.cells ≤ 0 := by decide) (hs : rm.slots ≤ 0 := by decide) : XSl l G ad aK aV y wl As (C, it, F, FS, RS, RF, MD, MF, cs) r0 (C, it, F, FS, RS, RF, MD, MF, cs) :=
  met_room (fr_rol h hr hp) hf hl hc hs
theorem xs_rwl {post : Int64 → Unit → Prop} {wc w1 wr : va_W} {r0 : Int64} {cs2 : Nat → Int64} (h : Met l y wl rm (va_Pc (.ref (ad 0 0 0) :: As) (rwP G wc)) (va_Ql (S := Unit) post (rwB G (fun _ => w1)) (lzA wc)) 0 0 (lzA wc)) (hr : ∀ r u, post r u → r = r0) (hp : (XW G ad C it F FS RS RF MD MF cs).Perm (wc ++ wr)) (hp2 : (XW G ad C it F FS RS RF MD MF cs2).Perm (w1 ++ wr)) (hf : rm.frames ≤ 8 := by decide) (hl : rm.locals ≤ 200 := by decide) (hc : rm.cells ≤ 0 := by decide) (hs : rm.slots ≤ 0 := by decide) : XSl l G ad aK aV y wl As (C, it, F, FS, RS, RF, MD, MF, cs) r0 (C, it, F, FS, RS, RF, MD, MF, cs2) :=
  met_room (fr_rwl h hr hp hp2) hf hl hc hs
theorem ms_rwl {post : Int64 → Unit → Prop} {wc w1 wr : va_W} {r0 : Int64} {B2 : Nat → Nat → Int32} {wy2 : Nat → Int64} (h : Met l y wl rm (va_Pc (.ref (ad 11 0 0) :: As) (rwP G wc)) (va_Ql (S := Unit) post (rwB G (fun _ => w1)) (lzA wc)) 0 0 (lzA wc)) (hr : ∀ r u, post r u → r = r0) (hp : (MW G ad B wy).Perm (wc ++ wr)) (hp2 : (MW G ad B2 wy2).Perm (w1 ++ wr)) (hf : rm.frames ≤ 8 := by decide) (hl : rm.locals ≤ 200 := by decide) (hc : rm.cells ≤ 0 := by decide) (hs : rm.slots ≤ 0 := by decide) : MSl l G ad aK aV y wl As (B, wy) r0 (B2, wy2) :=
  met_room (fr_rwl h hr hp hp2) hf hl hc hs
theorem stepJl_of {u u2 : lzSx} {v v2 : lzSm} {r : Int64} (hx : XSl l G ad aK aV yx wx As u r u2) (hm : MSl l G ad aK aV ym wm As v r v2) (hr : RelS (u2, v2)) : stepJl l G ad aK aV yx wx ym wm As (u, v) := by
  refine ⟨fun r' w' => r' = r ∧ w' = (u2, v), ?_, ?_⟩
  · exact fr_genl (W := JW G ad (u, v)) (wc := XWs G ad u) (wr := MWs G ad v) (W2 := JW G ad) hx (rws_part (List.Perm.refl _)) (List.Perm.refl _) (fun _ => (u2, v)) (fun r' _ e => ⟨e, rfl⟩) (fun _ => List.Perm.refl _)
  · rintro r' w' ⟨e1, e2⟩
    subst e1
    subst e2
    refine ⟨fun r'' w'' => r'' = r' ∧ w'' = (u2, v2), ?_, ?_⟩
    · exact fr_genl (W := JW G ad (u2, v)) (wc := MWs G ad v) (wr := XWs G ad u2) (W2 := JW G ad) hm (rws_part (jw_perm (u2, v))) (jw_perm (u2, v)) (fun _ => (u2, v2)) (fun r'' _ e => ⟨e, rfl⟩) (fun _ => jw_perm (u2, v2))
    · rintro r'' w'' ⟨e1, e2⟩
      subst e1
      subst e2
      exact ⟨rfl, hr⟩
end SLG
section SLH
variable {l : Launch} {G : lzG} {ad : Nat → Nat → Nat → Nat} {aK aV : Nat} {C it F FS RS : Nat → Nat → Int32} {RF : Nat → Nat → Nat → Int32} {MD : Nat → Nat → Int32} {MF : Nat → Nat → Nat → Int32} {cs : Nat → Int64} {B : Nat → Nat → Int32} {wy : Nat → Int64}
set_option maxHeartbeats 1000000 in
set_option maxRecDepth 100000 in
theorem st_slip (hR : Rel C it F RS RF MD MF B) (a set odd what : Int32) : stepJl l G ad aK aV yX3_slip wsX3_slip yX4_slip wsX4_slip [.int a, .int set, .int odd, .int what] ((C, it, F, FS, RS, RF, MD, MF, cs), (B, wy)) := by
  obtain ⟨N, M, hD⟩ := hR.1
  obtain ⟨dN, fN, hN8⟩ := rd_hN hD
  obtain ⟨dM, fM, hM5⟩ := rd_hM hD
  have eN : C 5 2 = B 4 2 := dN.trans fN.symm
  have eM : C 5 3 = B 4 3 := dM.trans fM.symm
  cases hb : (inR a 0 (C 5 3 - 1) && inR set 0 ((1 <<< (C 5 2 &&& 31)) - 1) && inR odd 0 10 && inR what 0 1)
  · exact stepJl_of (xs_rol (c_X3_slip_bad l G (ad 0 0 0) (ad 1 0) (C 0) (ad 3 0) (C 5) F a set odd what (hb)) (fun _ h => h) (xp_0_5 G ad C it F FS RS RF MD MF cs)) (ms_rwl (c_X4_slip_bad l G (ad 11 0 0) (ad 12 0) (B 0) (B 4) a set odd what (by rw [← eN, ← eM]; exact hb)) (fun _ _ h => h) (mp_0_4 G ad B wy) (mp_0_4 G ad (lzF B 0 (upd (B 0) 0 0)) wy)) (rel_th hR)
  · obtain ⟨hb123, hb4⟩ := Bool.and_eq_true_iff.mp hb
    obtain ⟨hb12, hb3⟩ := Bool.and_eq_true_iff.mp hb123
    obtain ⟨hb1, hb2⟩ := Bool.and_eq_true_iff.mp hb12
    obtain ⟨v, hv, rfl⟩ := idx_nat dM (by omega) hb1
    obtain ⟨k, -, hk, rfl⟩ := set_nat dN hN8 hb2
    obtain ⟨P, hP, rfl⟩ := in_nat (n := 10) (by decide) hb3
    obtain ⟨e0, e1, T, hT8, hT⟩ := hD.1
    have hE := slip_E hD hk
    have hE8 : cntN (fun s => hasI (nI k) s && cntM (B 4) s) N ≤ 8 := Nat.le_trans (cntN_le _ N) hN8
    exact stepJl_of (xs_rwl (cs2 := arrW cs (csN P (hasI (nI k &&& bitsI (cntD F) N)) (hasI (wrbD (C 5) F v N)) 8)) (c_X3_slip_ok l G (ad 0 0 0) (ad 1 0) (C 0) (ad 3 0) (C 5) F cs v (nI k) P what N M T (cntN (fun s => hasI (nI k) s && cntM (B 4) s) N) (dN) (hN8) (dM) (hM5) (hv) (hb2) (hP) (hb3) (hb4) (hT) (hT8) (hE) (hE8)) (fun _ _ h => h) (xp_0_5_13 G ad C it F FS RS RF MD MF cs) (xp_0_5_13 G ad C it F FS RS RF MD MF (arrW cs (csN P (hasI (nI k &&& bitsI (cntD F) N)) (hasI (wrbD (C 5) F v N)) 8)))) (ms_rwl (c_X4_slip_ok l G (ad 11 0 0) (ad 12 0) (B 0) (B 4) wy v (nI k) P what N M T (fN) (hN8) (fM) (hM5) (hv) (eN ▸ hb2) (hP) (hb3) (hb4) (e1.symm.trans hT) (hT8)) (fun _ _ h => h.trans (slip_ans hD hv hk hP hT8)) (mp_0_4_9 G ad B wy) (mp_0_4_9 G ad (lzF B 0 (upd (B 0) 0 0)) (arrW wy (csN P (fun s => hasI (nI k) s && cntM (B 4) s) (wrgM (B 4) v) N)))) (rel_th hR)
set_option maxHeartbeats 2000000 in
set_option maxRecDepth 100000 in
theorem st_door (hR : Rel C it F RS RF MD MF B) : stepJ l G ad aK aV yX3_door wsX3_door yX4_door wsX4_door [] ((C, it, F, FS, RS, RF, MD, MF, cs), (B, wy)) := by
  obtain ⟨N, M, hD⟩ := hR.1
  obtain ⟨L, hL, u1, b11, hT, hby⟩ := hR.2.2.2.1
  obtain ⟨X, K, hX, hK, v1, v2, b9, hA⟩ := hR.2.2.2.2.2.1
  have cx := c_X3_door l G (ad 0 0 0) (ad 1 0) (C 0) (ad 2 0) (C 3) (C 4) (ad 3 0) (C 5) F (ad 4 0) (C 6) FS (ad 5 0) (C 7) L aK aV (u1) (hL) (hby)
  refine ⟨fun r w1 => ∃ u9 : (Int32 × Nat) × ((Nat → Int32) × (Nat → Nat → Int32)), w1 = ((fun u9 : (Int32 × Nat) × ((Nat → Int32) × (Nat → Nat → Int32)) => (((lzF (lzF (lzF (lzF (lzF C 0 (upd (C 0) 5 (if u9.1.1 = 0 then C 0 5 else u9.1.1))) 3 (upd (upd (upd (C 3) 2 (nI u9.1.2)) 3 u9.1.1) 1 0)) 5 (if u9.1.1 = 0 then tfS u9.2.1 (C 5) else C 5)) 6 u9.2.1) 7 (upd (C 7) 2 (if u9.1.1 = 0 then 0 else C 7 2))), it, (if u9.1.1 = 0 then tfF u9.2.2 F else F), u9.2.2, RS, RF, MD, MF, cs) : lzSx)) u9, (B, wy)) ∧ drC (C 4) L (clrF FS) u9.1.1 u9.1 u9.2.1 u9.2.2 ∧ r = (if u9.1.1 = 0 then u9.2.1 2 else -1000100 - nI u9.1.2), ?_, ?_⟩
  · exact met_room (fr_gen (W := JW G ad ((C, it, F, FS, RS, RF, MD, MF, cs), (B, wy))) (W2 := JW G ad) (wr := _) cx (rws_part (((xp_0_3_4_5_6_7 G ad C it F FS RS RF MD MF cs).append_right (MWs G ad (B, wy))).trans (by rw [List.append_assoc]))) (((xp_0_3_4_5_6_7 G ad C it F FS RS RF MD MF cs).append_right (MWs G ad (B, wy))).trans (by rw [List.append_assoc])) (fun u9 => ((fun u9 : (Int32 × Nat) × ((Nat → Int32) × (Nat → Nat → Int32)) => (((lzF (lzF (lzF (lzF (lzF C 0 (upd (C 0) 5 (if u9.1.1 = 0 then C 0 5 else u9.1.1))) 3 (upd (upd (upd (C 3) 2 (nI u9.1.2)) 3 u9.1.1) 1 0)) 5 (if u9.1.1 = 0 then tfS u9.2.1 (C 5) else C 5)) 6 u9.2.1) 7 (upd (C 7) 2 (if u9.1.1 = 0 then 0 else C 7 2))), it, (if u9.1.1 = 0 then tfF u9.2.2 F else F), u9.2.2, RS, RF, MD, MF, cs) : lzSx)) u9, (B, wy))) (fun r u9 e => ⟨u9, rfl, e.1, e.2⟩) (fun u9 => ((xp_0_3_4_5_6_7 G ad (lzF (lzF (lzF (lzF (lzF C 0 (upd (C 0) 5 (if u9.1.1 = 0 then C 0 5 else u9.1.1))) 3 (upd (upd (upd (C 3) 2 (nI u9.1.2)) 3 u9.1.1) 1 0)) 5 (if u9.1.1 = 0 then tfS u9.2.1 (C 5) else C 5)) 6 u9.2.1) 7 (upd (C 7) 2 (if u9.1.1 = 0 then 0 else C 7 2))) it (if u9.1.1 = 0 then tfF u9.2.2 F else F) u9.2.2 RS RF MD MF cs).append_right (MWs G ad (B, wy))).trans (by rw [List.append_assoc]; exact List.Perm.refl _))) (by decide) (by decide) (by decide) (by decide)
  · rintro r w1 ⟨u9, rfl, hx9, hr9⟩
    have cm := c_X4_doorR l G (ad 11 0 0) (ad 12 0) (B 0) (B 4) (B 5) (B 8) L (b11) (hL)
    refine ⟨fun r w2 => ∃ v9 : (Nat → Int32) × ((Nat → Int32) × (Nat → Int32)), w2 = ((fun u9 : (Int32 × Nat) × ((Nat → Int32) × (Nat → Nat → Int32)) => (((lzF (lzF (lzF (lzF (lzF C 0 (upd (C 0) 5 (if u9.1.1 = 0 then C 0 5 else u9.1.1))) 3 (upd (upd (upd (C 3) 2 (nI u9.1.2)) 3 u9.1.1) 1 0)) 5 (if u9.1.1 = 0 then tfS u9.2.1 (C 5) else C 5)) 6 u9.2.1) 7 (upd (C 7) 2 (if u9.1.1 = 0 then 0 else C 7 2))), it, (if u9.1.1 = 0 then tfF u9.2.2 F else F), u9.2.2, RS, RF, MD, MF, cs) : lzSx)) u9, (((lzF (lzF (lzF B 0 v9.1) 4 v9.2.1) 5 v9.2.2), wy) : lzSm)) ∧ drM (B 0) (B 4) (B 8) L r v9.1 v9.2.1, ?_, ?_⟩
    · exact met_room (fr_gen (W := JW G ad ((fun u9 : (Int32 × Nat) × ((Nat → Int32) × (Nat → Nat → Int32)) => (((lzF (lzF (lzF (lzF (lzF C 0 (upd (C 0) 5 (if u9.1.1 = 0 then C 0 5 else u9.1.1))) 3 (upd (upd (upd (C 3) 2 (nI u9.1.2)) 3 u9.1.1) 1 0)) 5 (if u9.1.1 = 0 then tfS u9.2.1 (C 5) else C 5)) 6 u9.2.1) 7 (upd (C 7) 2 (if u9.1.1 = 0 then 0 else C 7 2))), it, (if u9.1.1 = 0 then tfF u9.2.2 F else F), u9.2.2, RS, RF, MD, MF, cs) : lzSx)) u9, (B, wy))) (W2 := JW G ad) (wr := _) cm (rws_partP ((jw_perm ((fun u9 : (Int32 × Nat) × ((Nat → Int32) × (Nat → Nat → Int32)) => (((lzF (lzF (lzF (lzF (lzF C 0 (upd (C 0) 5 (if u9.1.1 = 0 then C 0 5 else u9.1.1))) 3 (upd (upd (upd (C 3) 2 (nI u9.1.2)) 3 u9.1.1) 1 0)) 5 (if u9.1.1 = 0 then tfS u9.2.1 (C 5) else C 5)) 6 u9.2.1) 7 (upd (C 7) 2 (if u9.1.1 = 0 then 0 else C 7 2))), it, (if u9.1.1 = 0 then tfF u9.2.2 F else F), u9.2.2, RS, RF, MD, MF, cs) : lzSx)) u9, (B, wy))).trans (((mp_0_4_5_8 G ad B wy).append_right _).trans (by rw [List.append_assoc])))) ((jw_perm ((fun u9 : (Int32 × Nat) × ((Nat → Int32) × (Nat → Nat → Int32)) => (((lzF (lzF (lzF (lzF (lzF C 0 (upd (C 0) 5 (if u9.1.1 = 0 then C 0 5 else u9.1.1))) 3 (upd (upd (upd (C 3) 2 (nI u9.1.2)) 3 u9.1.1) 1 0)) 5 (if u9.1.1 = 0 then tfS u9.2.1 (C 5) else C 5)) 6 u9.2.1) 7 (upd (C 7) 2 (if u9.1.1 = 0 then 0 else C 7 2))), it, (if u9.1.1 = 0 then tfF u9.2.2 F else F), u9.2.2, RS, RF, MD, MF, cs) : lzSx)) u9, (B, wy))).trans (((mp_0_4_5_8 G ad B wy).append_right _).trans (by rw [List.append_assoc]))) (fun v9 => ((fun u9 : (Int32 × Nat) × ((Nat → Int32) × (Nat → Nat → Int32)) => (((lzF (lzF (lzF (lzF (lzF C 0 (upd (C 0) 5 (if u9.1.1 = 0 then C 0 5 else u9.1.1))) 3 (upd (upd (upd (C 3) 2 (nI u9.1.2)) 3 u9.1.1) 1 0)) 5 (if u9.1.1 = 0 then tfS u9.2.1 (C 5) else C 5)) 6 u9.2.1) 7 (upd (C 7) 2 (if u9.1.1 = 0 then 0 else C 7 2))), it, (if u9.1.1 = 0 then tfF u9.2.2 F else F), u9.2.2, RS, RF, MD, MF, cs) : lzSx)) u9, (((lzF (lzF (lzF B 0 v9.1) 4 v9.2.1) 5 v9.2.2), wy) : lzSm))) (fun r v9 e => ⟨v9, rfl, e⟩) (fun v9 => (jw_perm ((fun u9 : (Int32 × Nat) × ((Nat → Int32) × (Nat → Nat → Int32)) => (((lzF (lzF (lzF (lzF (lzF C 0 (upd (C 0) 5 (if u9.1.1 = 0 then C 0 5 else u9.1.1))) 3 (upd (upd (upd (C 3) 2 (nI u9.1.2)) 3 u9.1.1) 1 0)) 5 (if u9.1.1 = 0 then tfS u9.2.1 (C 5) else C 5)) 6 u9.2.1) 7 (upd (C 7) 2 (if u9.1.1 = 0 then 0 else C 7 2))), it, (if u9.1.1 = 0 then tfF u9.2.2 F else F), u9.2.2, RS, RF, MD, MF, cs) : lzSx)) u9, (((lzF (lzF (lzF B 0 v9.1) 4 v9.2.1) 5 v9.2.2), wy) : lzSm))).trans (((mp_0_4_5_8 G ad (lzF (lzF (lzF B 0 v9.1) 4 v9.2.1) 5 v9.2.2) wy).append_right _).trans (by rw [List.append_assoc]; exact List.Perm.refl _)))) (by decide) (by decide) (by decide) (by decide)
    · rintro r2 w2 ⟨v9, rfl, hm9⟩
      rw [← hT] at hm9
      exact door_rel hR hD hx9 hr9 hm9
end SLH
