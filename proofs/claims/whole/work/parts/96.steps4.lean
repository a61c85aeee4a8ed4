/-! steps over rows of clicks, copies, images -/
theorem xp_0_2_5_14_15_r (G : lzG) (ad : Nat → Nat → Nat → Nat) (C it F FS RS : Nat → Nat → Int32) (RF : Nat → Nat → Nat → Int32) (MD : Nat → Nat → Int32) (MF : Nat → Nat → Nat → Int32) (cs : Nat → Int64) : (XW G ad C it F FS RS RF MD MF cs).Perm ((lzX (ad 0 0 0) (ad 1 0) (C 0) ++ (lzI G (ad 1 0 2) 8 (C 2) ++ (lzDoor G (ad 1 0 6) (ad 3 0) (C 5) F ++ (lzQ G 4 (ad 1 0 0) 8 (fun i => some (ad 8 0 i)) ++ (mapI (fun i => lzI G (ad 8 0 i) 40 (it i)) 8))))) ++ List.flatten [lzI G (ad 1 0 1) 8 (C 1), lzTp (ad 1 0 4) (ad 2 0) (C 3), lzI G (ad 2 0 0) 120 (C 4), lzDoor G (ad 1 0 7) (ad 4 0) (C 6) FS, lzAc (ad 1 0 8) (ad 5 0) (C 7), lzQ G 3 (ad 5 0 0) 24 (fun i => some (ad 6 0 i)), ringW G (ad 6 0) (ad 7) RS RF, lzQ G 3 (ad 1 0 9) 2 (fun i => some (ad 9 0 i)), mapI (fun i => lzDoor G (ad 9 0 i) (ad 10 i) (MD i) (MF i)) 2, lzI G (ad 1 0 10) 16 (C 8), lzL G (ad 1 0 12) 9 cs]) := xw_perm (L := [lzX (ad 0 0 0) (ad 1 0) (C 0), lzI G (ad 1 0 2) 8 (C 2), lzDoor G (ad 1 0 6) (ad 3 0) (C 5) F, lzQ G 4 (ad 1 0 0) 8 (fun i => some (ad 8 0 i)), mapI (fun i => lzI G (ad 8 0 i) 40 (it i)) 8]) (L' := [lzI G (ad 1 0 1) 8 (C 1), lzTp (ad 1 0 4) (ad 2 0) (C 3), lzI G (ad 2 0 0) 120 (C 4), lzDoor G (ad 1 0 7) (ad 4 0) (C 6) FS, lzAc (ad 1 0 8) (ad 5 0) (C 7), lzQ G 3 (ad 5 0 0) 24 (fun i => some (ad 6 0 i)), ringW G (ad 6 0) (ad 7) RS RF, lzQ G 3 (ad 1 0 9) 2 (fun i => some (ad 9 0 i)), mapI (fun i => lzDoor G (ad 9 0 i) (ad 10 i) (MD i) (MF i)) 2, lzI G (ad 1 0 10) 16 (C 8), lzL G (ad 1 0 12) 9 cs]) [0, 2, 5, 14, 15] [1, 3, 4, 6, 7, 8, 9, 10, 11, 12, 13] rfl (by decide) (by simp only [List.flatten_cons, List.flatten_nil, List.append_nil])
theorem xr_0_2_5_14_15 (G : lzG) (ad : Nat → Nat → Nat → Nat) (C it F FS RS : Nat → Nat → Int32) (RF : Nat → Nat → Nat → Int32) (MD : Nat → Nat → Int32) (MF : Nat → Nat → Nat → Int32) (cs : Nat → Int64) (rr : Nat) (hrr : rr < 8) : (XW G ad C it F FS RS RF MD MF cs).Perm ((lzX (ad 0 0 0) (ad 1 0) (C 0) ++ (lzI G (ad 1 0 2) 8 (C 2) ++ (lzDoor G (ad 1 0 6) (ad 3 0) (C 5) F ++ (lzQ G 4 (ad 1 0 0) 8 (fun i => some (ad 8 0 i)) ++ (lzI G (ad 8 0 rr) 40 (it rr)))))) ++ (rowX G ad it rr ++ List.flatten [lzI G (ad 1 0 1) 8 (C 1), lzTp (ad 1 0 4) (ad 2 0) (C 3), lzI G (ad 2 0 0) 120 (C 4), lzDoor G (ad 1 0 7) (ad 4 0) (C 6) FS, lzAc (ad 1 0 8) (ad 5 0) (C 7), lzQ G 3 (ad 5 0 0) 24 (fun i => some (ad 6 0 i)), ringW G (ad 6 0) (ad 7) RS RF, lzQ G 3 (ad 1 0 9) 2 (fun i => some (ad 9 0 i)), mapI (fun i => lzDoor G (ad 9 0 i) (ad 10 i) (MD i) (MF i)) 2, lzI G (ad 1 0 10) 16 (C 8), lzL G (ad 1 0 12) 9 cs])) := by
  refine (xp_0_2_5_14_15_r G ad C it F FS RS RF MD MF cs).trans ?_
  have h := rows_open (G := G) (ad := ad) (it := it) hrr
  simp only [List.append_assoc]
  refine List.Perm.append_left _ ?_
  refine List.Perm.append_left _ ?_
  refine List.Perm.append_left _ ?_
  refine List.Perm.append_left _ ?_
  have h2 := h.append_right (List.flatten [lzI G (ad 1 0 1) 8 (C 1), lzTp (ad 1 0 4) (ad 2 0) (C 3), lzI G (ad 2 0 0) 120 (C 4), lzDoor G (ad 1 0 7) (ad 4 0) (C 6) FS, lzAc (ad 1 0 8) (ad 5 0) (C 7), lzQ G 3 (ad 5 0 0) 24 (fun i => some (ad 6 0 i)), ringW G (ad 6 0) (ad 7) RS RF, lzQ G 3 (ad 1 0 9) 2 (fun i => some (ad 9 0 i)), mapI (fun i => lzDoor G (ad 9 0 i) (ad 10 i) (MD i) (MF i)) 2, lzI G (ad 1 0 10) 16 (C 8), lzL G (ad 1 0 12) 9 cs])
  simp only [List.append_assoc] at h2
  exact h2
theorem xr_0_2_5_14_15w (G : lzG) (ad : Nat → Nat → Nat → Nat) (C it F FS RS : Nat → Nat → Int32) (RF : Nat → Nat → Nat → Int32) (MD : Nat → Nat → Int32) (MF : Nat → Nat → Nat → Int32) (cs : Nat → Int64) (rr : Nat) (hrr : rr < 8) (g : Nat → Int32) : (XW G ad C (lzF it rr g) F FS RS RF MD MF cs).Perm ((lzX (ad 0 0 0) (ad 1 0) (C 0) ++ (lzI G (ad 1 0 2) 8 (C 2) ++ (lzDoor G (ad 1 0 6) (ad 3 0) (C 5) F ++ (lzQ G 4 (ad 1 0 0) 8 (fun i => some (ad 8 0 i)) ++ (lzI G (ad 8 0 rr) 40 g))))) ++ (rowX G ad it rr ++ List.flatten [lzI G (ad 1 0 1) 8 (C 1), lzTp (ad 1 0 4) (ad 2 0) (C 3), lzI G (ad 2 0 0) 120 (C 4), lzDoor G (ad 1 0 7) (ad 4 0) (C 6) FS, lzAc (ad 1 0 8) (ad 5 0) (C 7), lzQ G 3 (ad 5 0 0) 24 (fun i => some (ad 6 0 i)), ringW G (ad 6 0) (ad 7) RS RF, lzQ G 3 (ad 1 0 9) 2 (fun i => some (ad 9 0 i)), mapI (fun i => lzDoor G (ad 9 0 i) (ad 10 i) (MD i) (MF i)) 2, lzI G (ad 1 0 10) 16 (C 8), lzL G (ad 1 0 12) 9 cs])) := by
  refine (xp_0_2_5_14_15_r G ad C (lzF it rr g) F FS RS RF MD MF cs).trans ?_
  have h := rows_open2 (G := G) (ad := ad) (it := it) g hrr
  simp only [List.append_assoc]
  refine List.Perm.append_left _ ?_
  refine List.Perm.append_left _ ?_
  refine List.Perm.append_left _ ?_
  refine List.Perm.append_left _ ?_
  have h2 := h.append_right (List.flatten [lzI G (ad 1 0 1) 8 (C 1), lzTp (ad 1 0 4) (ad 2 0) (C 3), lzI G (ad 2 0 0) 120 (C 4), lzDoor G (ad 1 0 7) (ad 4 0) (C 6) FS, lzAc (ad 1 0 8) (ad 5 0) (C 7), lzQ G 3 (ad 5 0 0) 24 (fun i => some (ad 6 0 i)), ringW G (ad 6 0) (ad 7) RS RF, lzQ G 3 (ad 1 0 9) 2 (fun i => some (ad 9 0 i)), mapI (fun i => lzDoor G (ad 9 0 i) (ad 10 i) (MD i) (MF i)) 2, lzI G (ad 1 0 10) 16 (C 8), lzL G (ad 1 0 12) 9 cs])
  simp only [List.append_assoc] at h2
  exact h2
theorem xp_0_1_2_14_15_t (G : lzG) (ad : Nat → Nat → Nat → Nat) (C it F FS RS : Nat → Nat → Int32) (RF : Nat → Nat → Nat → Int32) (MD : Nat → Nat → Int32) (MF : Nat → Nat → Nat → Int32) (cs : Nat → Int64) : (XW G ad C it F FS RS RF MD MF cs).Perm ((lzX (ad 0 0 0) (ad 1 0) (C 0) ++ (lzI G (ad 1 0 1) 8 (C 1) ++ (lzI G (ad 1 0 2) 8 (C 2) ++ (lzQ G 4 (ad 1 0 0) 8 (fun i => some (ad 8 0 i)) ++ (mapI (fun i => lzI G (ad 8 0 i) 40 (it i)) 8))))) ++ List.flatten [lzTp (ad 1 0 4) (ad 2 0) (C 3), lzI G (ad 2 0 0) 120 (C 4), lzDoor G (ad 1 0 6) (ad 3 0) (C 5) F, lzDoor G (ad 1 0 7) (ad 4 0) (C 6) FS, lzAc (ad 1 0 8) (ad 5 0) (C 7), lzQ G 3 (ad 5 0 0) 24 (fun i => some (ad 6 0 i)), ringW G (ad 6 0) (ad 7) RS RF, lzQ G 3 (ad 1 0 9) 2 (fun i => some (ad 9 0 i)), mapI (fun i => lzDoor G (ad 9 0 i) (ad 10 i) (MD i) (MF i)) 2, lzI G (ad 1 0 10) 16 (C 8), lzL G (ad 1 0 12) 9 cs]) := xw_perm (L := [lzX (ad 0 0 0) (ad 1 0) (C 0), lzI G (ad 1 0 1) 8 (C 1), lzI G (ad 1 0 2) 8 (C 2), lzQ G 4 (ad 1 0 0) 8 (fun i => some (ad 8 0 i)), mapI (fun i => lzI G (ad 8 0 i) 40 (it i)) 8]) (L' := [lzTp (ad 1 0 4) (ad 2 0) (C 3), lzI G (ad 2 0 0) 120 (C 4), lzDoor G (ad 1 0 6) (ad 3 0) (C 5) F, lzDoor G (ad 1 0 7) (ad 4 0) (C 6) FS, lzAc (ad 1 0 8) (ad 5 0) (C 7), lzQ G 3 (ad 5 0 0) 24 (fun i => some (ad 6 0 i)), ringW G (ad 6 0) (ad 7) RS RF, lzQ G 3 (ad 1 0 9) 2 (fun i => some (ad 9 0 i)), mapI (fun i => lzDoor G (ad 9 0 i) (ad 10 i) (MD i) (MF i)) 2, lzI G (ad 1 0 10) 16 (C 8), lzL G (ad 1 0 12) 9 cs]) [0, 1, 2, 14, 15] [3, 4, 5, 6, 7, 8, 9, 10, 11, 12, 13] rfl (by decide) (by simp only [List.flatten_cons, List.flatten_nil, List.append_nil])
theorem xt_0_1_2_14_15 (G : lzG) (ad : Nat → Nat → Nat → Nat) (C it F FS RS : Nat → Nat → Int32) (RF : Nat → Nat → Nat → Int32) (MD : Nat → Nat → Int32) (MF : Nat → Nat → Nat → Int32) (cs : Nat → Int64) (ra rb : Nat) (hra : ra < 8) (hrb : rb < 8) (hne : rb ≠ ra) : (XW G ad C it F FS RS RF MD MF cs).Perm ((lzX (ad 0 0 0) (ad 1 0) (C 0) ++ (lzI G (ad 1 0 1) 8 (C 1) ++ (lzI G (ad 1 0 2) 8 (C 2) ++ (lzQ G 4 (ad 1 0 0) 8 (fun i => some (ad 8 0 i)) ++ (lzI G (ad 8 0 ra) 40 (it ra) ++ (lzI G (ad 8 0 rb) 40 (it rb))))))) ++ (rowY G ad it ra rb ++ List.flatten [lzTp (ad 1 0 4) (ad 2 0) (C 3), lzI G (ad 2 0 0) 120 (C 4), lzDoor G (ad 1 0 6) (ad 3 0) (C 5) F, lzDoor G (ad 1 0 7) (ad 4 0) (C 6) FS, lzAc (ad 1 0 8) (ad 5 0) (C 7), lzQ G 3 (ad 5 0 0) 24 (fun i => some (ad 6 0 i)), ringW G (ad 6 0) (ad 7) RS RF, lzQ G 3 (ad 1 0 9) 2 (fun i => some (ad 9 0 i)), mapI (fun i => lzDoor G (ad 9 0 i) (ad 10 i) (MD i) (MF i)) 2, lzI G (ad 1 0 10) 16 (C 8), lzL G (ad 1 0 12) 9 cs])) := by
  refine (xp_0_1_2_14_15_t G ad C it F FS RS RF MD MF cs).trans ?_
  have h := rows_two (G := G) (ad := ad) (it := it) hra hrb hne
  simp only [List.append_assoc]
  refine List.Perm.append_left _ ?_
  refine List.Perm.append_left _ ?_
  refine List.Perm.append_left _ ?_
  refine List.Perm.append_left _ ?_
  have h2 := h.append_right (List.flatten [lzTp (ad 1 0 4) (ad 2 0) (C 3), lzI G (ad 2 0 0) 120 (C 4), lzDoor G (ad 1 0 6) (ad 3 0) (C 5) F, lzDoor G (ad 1 0 7) (ad 4 0) (C 6) FS, lzAc (ad 1 0 8) (ad 5 0) (C 7), lzQ G 3 (ad 5 0 0) 24 (fun i => some (ad 6 0 i)), ringW G (ad 6 0) (ad 7) RS RF, lzQ G 3 (ad 1 0 9) 2 (fun i => some (ad 9 0 i)), mapI (fun i => lzDoor G (ad 9 0 i) (ad 10 i) (MD i) (MF i)) 2, lzI G (ad 1 0 10) 16 (C 8), lzL G (ad 1 0 12) 9 cs])
  simp only [List.append_assoc] at h2
  exact h2
theorem xt_0_1_2_14_15w (G : lzG) (ad : Nat → Nat → Nat → Nat) (C it F FS RS : Nat → Nat → Int32) (RF : Nat → Nat → Nat → Int32) (MD : Nat → Nat → Int32) (MF : Nat → Nat → Nat → Int32) (cs : Nat → Int64) (ra rb : Nat) (hra : ra < 8) (hrb : rb < 8) (hne : rb ≠ ra) (g : Nat → Int32) : (XW G ad C (lzF it rb g) F FS RS RF MD MF cs).Perm ((lzX (ad 0 0 0) (ad 1 0) (C 0) ++ (lzI G (ad 1 0 1) 8 (C 1) ++ (lzI G (ad 1 0 2) 8 (C 2) ++ (lzQ G 4 (ad 1 0 0) 8 (fun i => some (ad 8 0 i)) ++ (lzI G (ad 8 0 ra) 40 (it ra) ++ (lzI G (ad 8 0 rb) 40 g)))))) ++ (rowY G ad it ra rb ++ List.flatten [lzTp (ad 1 0 4) (ad 2 0) (C 3), lzI G (ad 2 0 0) 120 (C 4), lzDoor G (ad 1 0 6) (ad 3 0) (C 5) F, lzDoor G (ad 1 0 7) (ad 4 0) (C 6) FS, lzAc (ad 1 0 8) (ad 5 0) (C 7), lzQ G 3 (ad 5 0 0) 24 (fun i => some (ad 6 0 i)), ringW G (ad 6 0) (ad 7) RS RF, lzQ G 3 (ad 1 0 9) 2 (fun i => some (ad 9 0 i)), mapI (fun i => lzDoor G (ad 9 0 i) (ad 10 i) (MD i) (MF i)) 2, lzI G (ad 1 0 10) 16 (C 8), lzL G (ad 1 0 12) 9 cs])) := by
  refine (xp_0_1_2_14_15_t G ad C (lzF it rb g) F FS RS RF MD MF cs).trans ?_
  have h := rows_two2 (G := G) (ad := ad) (it := it) g hra hrb hne
  simp only [List.append_assoc]
  refine List.Perm.append_left _ ?_
  refine List.Perm.append_left _ ?_
  refine List.Perm.append_left _ ?_
  refine List.Perm.append_left _ ?_
  have h2 := h.append_right (List.flatten [lzTp (ad 1 0 4) (ad 2 0) (C 3), lzI G (ad 2 0 0) 120 (C 4), lzDoor G (ad 1 0 6) (ad 3 0) (C 5) F, lzDoor G (ad 1 0 7) (ad 4 0) (C 6) FS, lzAc (ad 1 0 8) (ad 5 0) (C 7), lzQ G 3 (ad 5 0 0) 24 (fun i => some (ad 6 0 i)), ringW G (ad 6 0) (ad 7) RS RF, lzQ G 3 (ad 1 0 9) 2 (fun i => some (ad 9 0 i)), mapI (fun i => lzDoor G (ad 9 0 i) (ad 10 i) (MD i) (MF i)) 2, lzI G (ad 1 0 10) 16 (C 8), lzL G (ad 1 0 12) 9 cs])
  simp only [List.append_assoc] at h2
  exact h2
theorem xp_0_5_10_11_i (G : lzG) (ad : Nat → Nat → Nat → Nat) (C it F FS RS : Nat → Nat → Int32) (RF : Nat → Nat → Nat → Int32) (MD : Nat → Nat → Int32) (MF : Nat → Nat → Nat → Int32) (cs : Nat → Int64) : (XW G ad C it F FS RS RF MD MF cs).Perm ((lzX (ad 0 0 0) (ad 1 0) (C 0) ++ (lzDoor G (ad 1 0 6) (ad 3 0) (C 5) F ++ (lzQ G 3 (ad 1 0 9) 2 (fun i => some (ad 9 0 i)) ++ (mapI (fun i => lzDoor G (ad 9 0 i) (ad 10 i) (MD i) (MF i)) 2)))) ++ List.flatten [lzI G (ad 1 0 1) 8 (C 1), lzI G (ad 1 0 2) 8 (C 2), lzTp (ad 1 0 4) (ad 2 0) (C 3), lzI G (ad 2 0 0) 120 (C 4), lzDoor G (ad 1 0 7) (ad 4 0) (C 6) FS, lzAc (ad 1 0 8) (ad 5 0) (C 7), lzQ G 3 (ad 5 0 0) 24 (fun i => some (ad 6 0 i)), ringW G (ad 6 0) (ad 7) RS RF, lzI G (ad 1 0 10) 16 (C 8), lzL G (ad 1 0 12) 9 cs, lzQ G 4 (ad 1 0 0) 8 (fun i => some (ad 8 0 i)), mapI (fun i => lzI G (ad 8 0 i) 40 (it i)) 8]) := xw_perm (L := [lzX (ad 0 0 0) (ad 1 0) (C 0), lzDoor G (ad 1 0 6) (ad 3 0) (C 5) F, lzQ G 3 (ad 1 0 9) 2 (fun i => some (ad 9 0 i)), mapI (fun i => lzDoor G (ad 9 0 i) (ad 10 i) (MD i) (MF i)) 2]) (L' := [lzI G (ad 1 0 1) 8 (C 1), lzI G (ad 1 0 2) 8 (C 2), lzTp (ad 1 0 4) (ad 2 0) (C 3), lzI G (ad 2 0 0) 120 (C 4), lzDoor G (ad 1 0 7) (ad 4 0) (C 6) FS, lzAc (ad 1 0 8) (ad 5 0) (C 7), lzQ G 3 (ad 5 0 0) 24 (fun i => some (ad 6 0 i)), ringW G (ad 6 0) (ad 7) RS RF, lzI G (ad 1 0 10) 16 (C 8), lzL G (ad 1 0 12) 9 cs, lzQ G 4 (ad 1 0 0) 8 (fun i => some (ad 8 0 i)), mapI (fun i => lzI G (ad 8 0 i) 40 (it i)) 8]) [0, 5, 10, 11] [1, 2, 3, 4, 6, 7, 8, 9, 12, 13, 14, 15] rfl (by decide) (by simp only [List.flatten_cons, List.flatten_nil, List.append_nil])
theorem xi_0_5_10_11 (G : lzG) (ad : Nat → Nat → Nat → Nat) (C it F FS RS : Nat → Nat → Int32) (RF : Nat → Nat → Nat → Int32) (MD : Nat → Nat → Int32) (MF : Nat → Nat → Nat → Int32) (cs : Nat → Int64) (im : Nat) (him : im < 2) : (XW G ad C it F FS RS RF MD MF cs).Perm ((lzX (ad 0 0 0) (ad 1 0) (C 0) ++ (lzDoor G (ad 1 0 6) (ad 3 0) (C 5) F ++ (lzQ G 3 (ad 1 0 9) 2 (fun i => some (ad 9 0 i)) ++ (lzDoor G (ad 9 0 im) (ad 10 im) (MD im) (MF im))))) ++ (imX G ad MD MF im ++ List.flatten [lzI G (ad 1 0 1) 8 (C 1), lzI G (ad 1 0 2) 8 (C 2), lzTp (ad 1 0 4) (ad 2 0) (C 3), lzI G (ad 2 0 0) 120 (C 4), lzDoor G (ad 1 0 7) (ad 4 0) (C 6) FS, lzAc (ad 1 0 8) (ad 5 0) (C 7), lzQ G 3 (ad 5 0 0) 24 (fun i => some (ad 6 0 i)), ringW G (ad 6 0) (ad 7) RS RF, lzI G (ad 1 0 10) 16 (C 8), lzL G (ad 1 0 12) 9 cs, lzQ G 4 (ad 1 0 0) 8 (fun i => some (ad 8 0 i)), mapI (fun i => lzI G (ad 8 0 i) 40 (it i)) 8])) := by
  refine (xp_0_5_10_11_i G ad C it F FS RS RF MD MF cs).trans ?_
  have h := im_open (G := G) (ad := ad) (MD := MD) (MF := MF) him
  simp only [List.append_assoc]
  refine List.Perm.append_left _ ?_
  refine List.Perm.append_left _ ?_
  refine List.Perm.append_left _ ?_
  have h2 := h.append_right (List.flatten [lzI G (ad 1 0 1) 8 (C 1), lzI G (ad 1 0 2) 8 (C 2), lzTp (ad 1 0 4) (ad 2 0) (C 3), lzI G (ad 2 0 0) 120 (C 4), lzDoor G (ad 1 0 7) (ad 4 0) (C 6) FS, lzAc (ad 1 0 8) (ad 5 0) (C 7), lzQ G 3 (ad 5 0 0) 24 (fun i => some (ad 6 0 i)), ringW G (ad 6 0) (ad 7) RS RF, lzI G (ad 1 0 10) 16 (C 8), lzL G (ad 1 0 12) 9 cs, lzQ G 4 (ad 1 0 0) 8 (fun i => some (ad 8 0 i)), mapI (fun i => lzI G (ad 8 0 i) 40 (it i)) 8])
  simp only [List.append_assoc] at h2
  exact h2
theorem xi_0_5_10_11w (G : lzG) (ad : Nat → Nat → Nat → Nat) (C it F FS RS : Nat → Nat → Int32) (RF : Nat → Nat → Nat → Int32) (MD : Nat → Nat → Int32) (MF : Nat → Nat → Nat → Int32) (cs : Nat → Int64) (im : Nat) (him : im < 2) (D9 : Nat → Int32) (F9 : Nat → Nat → Int32) : (XW G ad C it F FS RS RF (lzF MD im D9) (lz3 MF im F9) cs).Perm ((lzX (ad 0 0 0) (ad 1 0) (C 0) ++ (lzDoor G (ad 1 0 6) (ad 3 0) (C 5) F ++ (lzQ G 3 (ad 1 0 9) 2 (fun i => some (ad 9 0 i)) ++ (lzDoor G (ad 9 0 im) (ad 10 im) D9 F9)))) ++ (imX G ad MD MF im ++ List.flatten [lzI G (ad 1 0 1) 8 (C 1), lzI G (ad 1 0 2) 8 (C 2), lzTp (ad 1 0 4) (ad 2 0) (C 3), lzI G (ad 2 0 0) 120 (C 4), lzDoor G (ad 1 0 7) (ad 4 0) (C 6) FS, lzAc (ad 1 0 8) (ad 5 0) (C 7), lzQ G 3 (ad 5 0 0) 24 (fun i => some (ad 6 0 i)), ringW G (ad 6 0) (ad 7) RS RF, lzI G (ad 1 0 10) 16 (C 8), lzL G (ad 1 0 12) 9 cs, lzQ G 4 (ad 1 0 0) 8 (fun i => some (ad 8 0 i)), mapI (fun i => lzI G (ad 8 0 i) 40 (it i)) 8])) := by
  refine (xp_0_5_10_11_i G ad C it F FS RS RF (lzF MD im D9) (lz3 MF im F9) cs).trans ?_
  have h := im_open2 (G := G) (ad := ad) (MD := MD) (MF := MF) D9 F9 him
  simp only [List.append_assoc]
  refine List.Perm.append_left _ ?_
  refine List.Perm.append_left _ ?_
  refine List.Perm.append_left _ ?_
  have h2 := h.append_right (List.flatten [lzI G (ad 1 0 1) 8 (C 1), lzI G (ad 1 0 2) 8 (C 2), lzTp (ad 1 0 4) (ad 2 0) (C 3), lzI G (ad 2 0 0) 120 (C 4), lzDoor G (ad 1 0 7) (ad 4 0) (C 6) FS, lzAc (ad 1 0 8) (ad 5 0) (C 7), lzQ G 3 (ad 5 0 0) 24 (fun i => some (ad 6 0 i)), ringW G (ad 6 0) (ad 7) RS RF, lzI G (ad 1 0 10) 16 (C 8), lzL G (ad 1 0 12) 9 cs, lzQ G 4 (ad 1 0 0) 8 (fun i => some (ad 8 0 i)), mapI (fun i => lzI G (ad 8 0 i) 40 (it i)) 8])
  simp only [List.append_assoc] at h2
  exact h2
theorem xp_0_5_10_11_7_i (G : lzG) (ad : Nat → Nat → Nat → Nat) (C it F FS RS : Nat → Nat → Int32) (RF : Nat → Nat → Nat → Int32) (MD : Nat → Nat → Int32) (MF : Nat → Nat → Nat → Int32) (cs : Nat → Int64) : (XW G ad C it F FS RS RF MD MF cs).Perm ((lzX (ad 0 0 0) (ad 1 0) (C 0) ++ (lzDoor G (ad 1 0 6) (ad 3 0) (C 5) F ++ (lzQ G 3 (ad 1 0 9) 2 (fun i => some (ad 9 0 i)) ++ (mapI (fun i => lzDoor G (ad 9 0 i) (ad 10 i) (MD i) (MF i)) 2 ++ (lzAc (ad 1 0 8) (ad 5 0) (C 7)))))) ++ List.flatten [lzI G (ad 1 0 1) 8 (C 1), lzI G (ad 1 0 2) 8 (C 2), lzTp (ad 1 0 4) (ad 2 0) (C 3), lzI G (ad 2 0 0) 120 (C 4), lzDoor G (ad 1 0 7) (ad 4 0) (C 6) FS, lzQ G 3 (ad 5 0 0) 24 (fun i => some (ad 6 0 i)), ringW G (ad 6 0) (ad 7) RS RF, lzI G (ad 1 0 10) 16 (C 8), lzL G (ad 1 0 12) 9 cs, lzQ G 4 (ad 1 0 0) 8 (fun i => some (ad 8 0 i)), mapI (fun i => lzI G (ad 8 0 i) 40 (it i)) 8]) := xw_perm (L := [lzX (ad 0 0 0) (ad 1 0) (C 0), lzDoor G (ad 1 0 6) (ad 3 0) (C 5) F, lzQ G 3 (ad 1 0 9) 2 (fun i => some (ad 9 0 i)), mapI (fun i => lzDoor G (ad 9 0 i) (ad 10 i) (MD i) (MF i)) 2, lzAc (ad 1 0 8) (ad 5 0) (C 7)]) (L' := [lzI G (ad 1 0 1) 8 (C 1), lzI G (ad 1 0 2) 8 (C 2), lzTp (ad 1 0 4) (ad 2 0) (C 3), lzI G (ad 2 0 0) 120 (C 4), lzDoor G (ad 1 0 7) (ad 4 0) (C 6) FS, lzQ G 3 (ad 5 0 0) 24 (fun i => some (ad 6 0 i)), ringW G (ad 6 0) (ad 7) RS RF, lzI G (ad 1 0 10) 16 (C 8), lzL G (ad 1 0 12) 9 cs, lzQ G 4 (ad 1 0 0) 8 (fun i => some (ad 8 0 i)), mapI (fun i => lzI G (ad 8 0 i) 40 (it i)) 8]) [0, 5, 10, 11, 7] [1, 2, 3, 4, 6, 8, 9, 12, 13, 14, 15] rfl (by decide) (by simp only [List.flatten_cons, List.flatten_nil, List.append_nil])
theorem xi_0_5_10_11_7 (G : lzG) (ad : Nat → Nat → Nat → Nat) (C it F FS RS : Nat → Nat → Int32) (RF : Nat → Nat → Nat → Int32) (MD : Nat → Nat → Int32) (MF : Nat → Nat → Nat → Int32) (cs : Nat → Int64) (im : Nat) (him : im < 2) : (XW G ad C it F FS RS RF MD MF cs).Perm ((lzX (ad 0 0 0) (ad 1 0) (C 0) ++ (lzDoor G (ad 1 0 6) (ad 3 0) (C 5) F ++ (lzQ G 3 (ad 1 0 9) 2 (fun i => some (ad 9 0 i)) ++ (lzDoor G (ad 9 0 im) (ad 10 im) (MD im) (MF im) ++ (lzAc (ad 1 0 8) (ad 5 0) (C 7)))))) ++ (imX G ad MD MF im ++ List.flatten [lzI G (ad 1 0 1) 8 (C 1), lzI G (ad 1 0 2) 8 (C 2), lzTp (ad 1 0 4) (ad 2 0) (C 3), lzI G (ad 2 0 0) 120 (C 4), lzDoor G (ad 1 0 7) (ad 4 0) (C 6) FS, lzQ G 3 (ad 5 0 0) 24 (fun i => some (ad 6 0 i)), ringW G (ad 6 0) (ad 7) RS RF, lzI G (ad 1 0 10) 16 (C 8), lzL G (ad 1 0 12) 9 cs, lzQ G 4 (ad 1 0 0) 8 (fun i => some (ad 8 0 i)), mapI (fun i => lzI G (ad 8 0 i) 40 (it i)) 8])) := by
  refine (xp_0_5_10_11_7_i G ad C it F FS RS RF MD MF cs).trans ?_
  have h := im_open (G := G) (ad := ad) (MD := MD) (MF := MF) him
  simp only [List.append_assoc]
  refine List.Perm.append_left _ ?_
  refine List.Perm.append_left _ ?_
  refine List.Perm.append_left _ ?_
  have h2 := h.append_right ((lzAc (ad 1 0 8) (ad 5 0) (C 7)) ++ List.flatten [lzI G (ad 1 0 1) 8 (C 1), lzI G (ad 1 0 2) 8 (C 2), lzTp (ad 1 0 4) (ad 2 0) (C 3), lzI G (ad 2 0 0) 120 (C 4), lzDoor G (ad 1 0 7) (ad 4 0) (C 6) FS, lzQ G 3 (ad 5 0 0) 24 (fun i => some (ad 6 0 i)), ringW G (ad 6 0) (ad 7) RS RF, lzI G (ad 1 0 10) 16 (C 8), lzL G (ad 1 0 12) 9 cs, lzQ G 4 (ad 1 0 0) 8 (fun i => some (ad 8 0 i)), mapI (fun i => lzI G (ad 8 0 i) 40 (it i)) 8])
  simp only [List.append_assoc] at h2
  refine h2.trans ?_
  refine List.Perm.append_left _ ?_
  have h3 := (List.perm_append_comm (l₁ := imX G ad MD MF im) (l₂ := (lzAc (ad 1 0 8) (ad 5 0) (C 7)))).append_right (List.flatten [lzI G (ad 1 0 1) 8 (C 1), lzI G (ad 1 0 2) 8 (C 2), lzTp (ad 1 0 4) (ad 2 0) (C 3), lzI G (ad 2 0 0) 120 (C 4), lzDoor G (ad 1 0 7) (ad 4 0) (C 6) FS, lzQ G 3 (ad 5 0 0) 24 (fun i => some (ad 6 0 i)), ringW G (ad 6 0) (ad 7) RS RF, lzI G (ad 1 0 10) 16 (C 8), lzL G (ad 1 0 12) 9 cs, lzQ G 4 (ad 1 0 0) 8 (fun i => some (ad 8 0 i)), mapI (fun i => lzI G (ad 8 0 i) 40 (it i)) 8])
  simp only [List.append_assoc] at h3
  exact h3
theorem xi_0_5_10_11_7w (G : lzG) (ad : Nat → Nat → Nat → Nat) (C it F FS RS : Nat → Nat → Int32) (RF : Nat → Nat → Nat → Int32) (MD : Nat → Nat → Int32) (MF : Nat → Nat → Nat → Int32) (cs : Nat → Int64) (im : Nat) (him : im < 2) (D9 : Nat → Int32) (F9 : Nat → Nat → Int32) : (XW G ad C it F FS RS RF (lzF MD im D9) (lz3 MF im F9) cs).Perm ((lzX (ad 0 0 0) (ad 1 0) (C 0) ++ (lzDoor G (ad 1 0 6) (ad 3 0) (C 5) F ++ (lzQ G 3 (ad 1 0 9) 2 (fun i => some (ad 9 0 i)) ++ (lzDoor G (ad 9 0 im) (ad 10 im) D9 F9 ++ (lzAc (ad 1 0 8) (ad 5 0) (C 7)))))) ++ (imX G ad MD MF im ++ List.flatten [lzI G (ad 1 0 1) 8 (C 1), lzI G (ad 1 0 2) 8 (C 2), lzTp (ad 1 0 4) (ad 2 0) (C 3), lzI G (ad 2 0 0) 120 (C 4), lzDoor G (ad 1 0 7) (ad 4 0) (C 6) FS, lzQ G 3 (ad 5 0 0) 24 (fun i => some (ad 6 0 i)), ringW G (ad 6 0) (ad 7) RS RF, lzI G (ad 1 0 10) 16 (C 8), lzL G (ad 1 0 12) 9 cs, lzQ G 4 (ad 1 0 0) 8 (fun i => some (ad 8 0 i)), mapI (fun i => lzI G (ad 8 0 i) 40 (it i)) 8])) := by
  refine (xp_0_5_10_11_7_i G ad C it F FS RS RF (lzF MD im D9) (lz3 MF im F9) cs).trans ?_
  have h := im_open2 (G := G) (ad := ad) (MD := MD) (MF := MF) D9 F9 him
  simp only [List.append_assoc]
  refine List.Perm.append_left _ ?_
  refine List.Perm.append_left _ ?_
  refine List.Perm.append_left _ ?_
  have h2 := h.append_right ((lzAc (ad 1 0 8) (ad 5 0) (C 7)) ++ List.flatten [lzI G (ad 1 0 1) 8 (C 1), lzI G (ad 1 0 2) 8 (C 2), lzTp (ad 1 0 4) (ad 2 0) (C 3), lzI G (ad 2 0 0) 120 (C 4), lzDoor G (ad 1 0 7) (ad 4 0) (C 6) FS, lzQ G 3 (ad 5 0 0) 24 (fun i => some (ad 6 0 i)), ringW G (ad 6 0) (ad 7) RS RF, lzI G (ad 1 0 10) 16 (C 8), lzL G (ad 1 0 12) 9 cs, lzQ G 4 (ad 1 0 0) 8 (fun i => some (ad 8 0 i)), mapI (fun i => lzI G (ad 8 0 i) 40 (it i)) 8])
  simp only [List.append_assoc] at h2
  refine h2.trans ?_
  refine List.Perm.append_left _ ?_
  have h3 := (List.perm_append_comm (l₁ := imX G ad MD MF im) (l₂ := (lzAc (ad 1 0 8) (ad 5 0) (C 7)))).append_right (List.flatten [lzI G (ad 1 0 1) 8 (C 1), lzI G (ad 1 0 2) 8 (C 2), lzTp (ad 1 0 4) (ad 2 0) (C 3), lzI G (ad 2 0 0) 120 (C 4), lzDoor G (ad 1 0 7) (ad 4 0) (C 6) FS, lzQ G 3 (ad 5 0 0) 24 (fun i => some (ad 6 0 i)), ringW G (ad 6 0) (ad 7) RS RF, lzI G (ad 1 0 10) 16 (C 8), lzL G (ad 1 0 12) 9 cs, lzQ G 4 (ad 1 0 0) 8 (fun i => some (ad 8 0 i)), mapI (fun i => lzI G (ad 8 0 i) 40 (it i)) 8])
  simp only [List.append_assoc] at h3
  exact h3
theorem xp_0_1_2 (G : lzG) (ad : Nat → Nat → Nat → Nat) (C it F FS RS : Nat → Nat → Int32) (RF : Nat → Nat → Nat → Int32) (MD : Nat → Nat → Int32) (MF : Nat → Nat → Nat → Int32) (cs : Nat → Int64) : (XW G ad C it F FS RS RF MD MF cs).Perm ((lzX (ad 0 0 0) (ad 1 0) (C 0) ++ (lzI G (ad 1 0 1) 8 (C 1) ++ (lzI G (ad 1 0 2) 8 (C 2)))) ++ List.flatten [lzTp (ad 1 0 4) (ad 2 0) (C 3), lzI G (ad 2 0 0) 120 (C 4), lzDoor G (ad 1 0 6) (ad 3 0) (C 5) F, lzDoor G (ad 1 0 7) (ad 4 0) (C 6) FS, lzAc (ad 1 0 8) (ad 5 0) (C 7), lzQ G 3 (ad 5 0 0) 24 (fun i => some (ad 6 0 i)), ringW G (ad 6 0) (ad 7) RS RF, lzQ G 3 (ad 1 0 9) 2 (fun i => some (ad 9 0 i)), mapI (fun i => lzDoor G (ad 9 0 i) (ad 10 i) (MD i) (MF i)) 2, lzI G (ad 1 0 10) 16 (C 8), lzL G (ad 1 0 12) 9 cs, lzQ G 4 (ad 1 0 0) 8 (fun i => some (ad 8 0 i)), mapI (fun i => lzI G (ad 8 0 i) 40 (it i)) 8]) := xw_perm (L := [lzX (ad 0 0 0) (ad 1 0) (C 0), lzI G (ad 1 0 1) 8 (C 1), lzI G (ad 1 0 2) 8 (C 2)]) (L' := [lzTp (ad 1 0 4) (ad 2 0) (C 3), lzI G (ad 2 0 0) 120 (C 4), lzDoor G (ad 1 0 6) (ad 3 0) (C 5) F, lzDoor G (ad 1 0 7) (ad 4 0) (C 6) FS, lzAc (ad 1 0 8) (ad 5 0) (C 7), lzQ G 3 (ad 5 0 0) 24 (fun i => some (ad 6 0 i)), ringW G (ad 6 0) (ad 7) RS RF, lzQ G 3 (ad 1 0 9) 2 (fun i => some (ad 9 0 i)), mapI (fun i => lzDoor G (ad 9 0 i) (ad 10 i) (MD i) (MF i)) 2, lzI G (ad 1 0 10) 16 (C 8), lzL G (ad 1 0 12) 9 cs, lzQ G 4 (ad 1 0 0) 8 (fun i => some (ad 8 0 i)), mapI (fun i => lzI G (ad 8 0 i) 40 (it i)) 8]) [0, 1, 2] [3, 4, 5, 6, 7, 8, 9, 10, 11, 12, 13, 14, 15] rfl (by decide) (by simp only [List.flatten_cons, List.flatten_nil, List.append_nil])
theorem xp_0_2_5 (G : lzG) (ad : Nat → Nat → Nat → Nat) (C it F FS RS : Nat → Nat → Int32) (RF : Nat → Nat → Nat → Int32) (MD : Nat → Nat → Int32) (MF : Nat → Nat → Nat → Int32) (cs : Nat → Int64) : (XW G ad C it F FS RS RF MD MF cs).Perm ((lzX (ad 0 0 0) (ad 1 0) (C 0) ++ (lzI G (ad 1 0 2) 8 (C 2) ++ (lzDoor G (ad 1 0 6) (ad 3 0) (C 5) F))) ++ List.flatten [lzI G (ad 1 0 1) 8 (C 1), lzTp (ad 1 0 4) (ad 2 0) (C 3), lzI G (ad 2 0 0) 120 (C 4), lzDoor G (ad 1 0 7) (ad 4 0) (C 6) FS, lzAc (ad 1 0 8) (ad 5 0) (C 7), lzQ G 3 (ad 5 0 0) 24 (fun i => some (ad 6 0 i)), ringW G (ad 6 0) (ad 7) RS RF, lzQ G 3 (ad 1 0 9) 2 (fun i => some (ad 9 0 i)), mapI (fun i => lzDoor G (ad 9 0 i) (ad 10 i) (MD i) (MF i)) 2, lzI G (ad 1 0 10) 16 (C 8), lzL G (ad 1 0 12) 9 cs, lzQ G 4 (ad 1 0 0) 8 (fun i => some (ad 8 0 i)), mapI (fun i => lzI G (ad 8 0 i) 40 (it i)) 8]) := xw_perm (L := [lzX (ad 0 0 0) (ad 1 0) (C 0), lzI G (ad 1 0 2) 8 (C 2), lzDoor G (ad 1 0 6) (ad 3 0) (C 5) F]) (L' := [lzI G (ad 1 0 1) 8 (C 1), lzTp (ad 1 0 4) (ad 2 0) (C 3), lzI G (ad 2 0 0) 120 (C 4), lzDoor G (ad 1 0 7) (ad 4 0) (C 6) FS, lzAc (ad 1 0 8) (ad 5 0) (C 7), lzQ G 3 (ad 5 0 0) 24 (fun i => some (ad 6 0 i)), ringW G (ad 6 0) (ad 7) RS RF, lzQ G 3 (ad 1 0 9) 2 (fun i => some (ad 9 0 i)), mapI (fun i => lzDoor G (ad 9 0 i) (ad 10 i) (MD i) (MF i)) 2, lzI G (ad 1 0 10) 16 (C 8), lzL G (ad 1 0 12) 9 cs, lzQ G 4 (ad 1 0 0) 8 (fun i => some (ad 8 0 i)), mapI (fun i => lzI G (ad 8 0 i) 40 (it i)) 8]) [0, 2, 5] [1, 3, 4, 6, 7, 8, 9, 10, 11, 12, 13, 14, 15] rfl (by decide) (by simp only [List.flatten_cons, List.flatten_nil, List.append_nil])
theorem mp_0_1_2_3_4 (G : lzG) (ad : Nat → Nat → Nat → Nat) (B : Nat → Nat → Int32) (wy : Nat → Int64) : (MW G ad B wy).Perm ((lzM (ad 11 0 0) (ad 12 0) (B 0) ++ (lzI G (ad 12 0 2) 8 (B 1) ++ (lzI G (ad 12 0 3) 8 (B 2) ++ (lzI G (ad 12 0 4) 320 (B 3) ++ (lzI G (ad 12 0 5) 64 (B 4)))))) ++ List.flatten [lzI G (ad 12 0 6) 64 (B 5), lzI G (ad 12 0 7) 64 (B 6), lzI G (ad 12 0 8) 1536 (B 7), lzI G (ad 12 0 10) 120 (B 8), lzL G (ad 12 0 19) 9 wy, lzZ G (ad 12 0 20) 2 (B 9), lzI G (ad 12 0 21) 128 (B 10), lzI G (ad 12 0 22) 16 (B 11)]) := mw_perm (L := [lzM (ad 11 0 0) (ad 12 0) (B 0), lzI G (ad 12 0 2) 8 (B 1), lzI G (ad 12 0 3) 8 (B 2), lzI G (ad 12 0 4) 320 (B 3), lzI G (ad 12 0 5) 64 (B 4)]) (L' := [lzI G (ad 12 0 6) 64 (B 5), lzI G (ad 12 0 7) 64 (B 6), lzI G (ad 12 0 8) 1536 (B 7), lzI G (ad 12 0 10) 120 (B 8), lzL G (ad 12 0 19) 9 wy, lzZ G (ad 12 0 20) 2 (B 9), lzI G (ad 12 0 21) 128 (B 10), lzI G (ad 12 0 22) 16 (B 11)]) [0, 1, 2, 3, 4] [5, 6, 7, 8, 9, 10, 11, 12] rfl (by decide) (by simp only [List.flatten_cons, List.flatten_nil, List.append_nil])
theorem mp_0_4_10_11 (G : lzG) (ad : Nat → Nat → Nat → Nat) (B : Nat → Nat → Int32) (wy : Nat → Int64) : (MW G ad B wy).Perm ((lzM (ad 11 0 0) (ad 12 0) (B 0) ++ (lzI G (ad 12 0 5) 64 (B 4) ++ (lzZ G (ad 12 0 20) 2 (B 9) ++ (lzI G (ad 12 0 21) 128 (B 10))))) ++ List.flatten [lzI G (ad 12 0 2) 8 (B 1), lzI G (ad 12 0 3) 8 (B 2), lzI G (ad 12 0 4) 320 (B 3), lzI G (ad 12 0 6) 64 (B 5), lzI G (ad 12 0 7) 64 (B 6), lzI G (ad 12 0 8) 1536 (B 7), lzI G (ad 12 0 10) 120 (B 8), lzL G (ad 12 0 19) 9 wy, lzI G (ad 12 0 22) 16 (B 11)]) := mw_perm (L := [lzM (ad 11 0 0) (ad 12 0) (B 0), lzI G (ad 12 0 5) 64 (B 4), lzZ G (ad 12 0 20) 2 (B 9), lzI G (ad 12 0 21) 128 (B 10)]) (L' := [lzI G (ad 12 0 2) 8 (B 1), lzI G (ad 12 0 3) 8 (B 2), lzI G (ad 12 0 4) 320 (B 3), lzI G (ad 12 0 6) 64 (B 5), lzI G (ad 12 0 7) 64 (B 6), lzI G (ad 12 0 8) 1536 (B 7), lzI G (ad 12 0 10) 120 (B 8), lzL G (ad 12 0 19) 9 wy, lzI G (ad 12 0 22) 16 (B 11)]) [0, 4, 10, 11] [1, 2, 3, 5, 6, 7, 8, 9, 12] rfl (by decide) (by simp only [List.flatten_cons, List.flatten_nil, List.append_nil])
section STP4
variable {l : Launch} {G : lzG} {ad : Nat → Nat → Nat → Nat} {aK aV : Nat} {C it F FS RS : Nat → Nat → Int32} {RF : Nat → Nat → Nat → Int32} {MD : Nat → Nat → Int32} {MF : Nat → Nat → Nat → Int32} {cs : Nat → Int64} {B : Nat → Nat → Int32} {wy : Nat → Int64}
set_option maxHeartbeats 1000000 in
set_option maxRecDepth 100000 in
theorem st_shares (hR : Rel C it F RS RF MD MF B) (a : Int32) (b : Int32) (c : Int32) : stepX l G ad aK aV yX3_shares wsX3_shares yX4_shares wsX4_shares [.int a, .int b, .int c] C it F FS RS RF MD MF cs B wy := by
  obtain ⟨N, M, hD⟩ := hR.1
  obtain ⟨dN, fN, hN8⟩ := rd_hN hD
  obtain ⟨dM, fM, hM5⟩ := rd_hM hD
  have eN : C 5 2 = B 4 2 := dN.trans fN.symm
  have eM : C 5 3 = B 4 3 := dM.trans fM.symm
  cases hb : (inR a 0 (C 5 2 - 1) && inR b 0 7)
  · exact step_mk (xs_ro (c_X3_shares_bad l G (ad 0 0 0) (ad 1 0) (C 0) (ad 3 0) (C 5) F a b c (hb)) (fun _ h => h) (xp_0_5 G ad C it F FS RS RF MD MF cs)) (ms_rw (c_X4_shares_bad l G (ad 11 0 0) (ad 12 0) (B 0) (B 4) a b c (eN ▸ hb)) (fun _ _ h => h) (mp_0_4 G ad B wy) (mp_0_4 G ad (lzF B 0 (upd (B 0) 0 0)) wy)) (rel_th hR)
  · obtain ⟨hb1, hb2⟩ := Bool.and_eq_true_iff.mp hb
    obtain ⟨s, hs, rfl⟩ := idx_nat dN (by omega) hb1
    obtain ⟨rr, hrr, rfl⟩ := in_nat (n := 7) (by decide) hb2
    have hr8 : rr < 8 := by omega
    have hn0c : ¬ C 5 3 < 0 := by rw [dM]; exact nI_nneg (by omega)
    rcases hR.2.2.2.2.1 rr hr8 with ⟨q1, q2⟩ | ⟨q1, q2, ⟨n0, hn0, q3⟩, q4, q5⟩
    · obtain ⟨e1, e2⟩ := look_no (i := c) (n := C 5 3) q1
      exact step_mk (xs_rw (c_X3_shares_no l G (ad 0 0 0) (ad 1 0) (C 0) (C 2) (ad 3 0) (C 5) F rr s N c (hr8) (dN) (hN8) (hs) (by rw [e1]; decide)) (fun _ _ h => h.trans e1) (xp_0_2_5 G ad C it F FS RS RF MD MF cs) (xp_0_2_5 G ad (lzF C 0 (upd (C 0) 3 (lookF ((C 2) rr) c ((C 5) 3)))) it F FS RS RF MD MF cs)) (ms_rw (c_X4_shares_null l G (ad 11 0 0) (ad 12 0) (B 0) (B 1) (B 2) (B 3) (B 4) s N rr c (hr8) (fN) (hN8) (hs) (by rw [q2]; decide)) (fun _ _ h => h) (mp_0_1_2_3_4 G ad B wy) (mp_0_1_2_3_4 G ad (lzF B 0 (upd (upd (B 0) 0 0) 1 1)) wy)) (rel_find hR e2)
    · have hne : ¬ C 2 rr = -1000000 := by rw [q1, q3]; exact nI_none2 hn0
      cases hp : hasB (C 2 rr) c (C 5 3)
      · obtain ⟨e1, e2⟩ := look_pl hne hp
        exact step_mk (xs_rw (c_X3_shares_no l G (ad 0 0 0) (ad 1 0) (C 0) (C 2) (ad 3 0) (C 5) F rr s N c (hr8) (dN) (hN8) (hs) (by rw [e1]; decide)) (fun _ _ h => h.trans e1) (xp_0_2_5 G ad C it F FS RS RF MD MF cs) (xp_0_2_5 G ad (lzF C 0 (upd (C 0) 3 (lookF ((C 2) rr) c ((C 5) 3)))) it F FS RS RF MD MF cs)) (ms_rw (c_X4_shares_place l G (ad 11 0 0) (ad 12 0) (B 0) (B 1) (B 2) (B 3) (B 4) s N rr c (hr8) (fN) (hN8) (hs) ((lane_pos q4).1) (by rw [← q1, ← eM]; exact plc_t hn0c hp)) (fun _ _ h => h) (mp_0_1_2_3_4 G ad B wy) (mp_0_1_2_3_4 G ad (lzF B 0 (upd (upd (B 0) 0 0) 1 2)) wy)) (rel_find hR e2)
      · obtain ⟨e1, e2⟩ := look_ok hne hp
        obtain ⟨i1, b1, rfl, eb, hib⟩ := has_room hn0 (show hasB (nI n0) c (nI M) = true by rw [← q3, ← q1, ← dM]; exact hp)
        have hb9 : b1 = M := ((nI_eq (by omega) (by omega)).mp eb).symm
        have hi40 : i1 + M ≤ 40 := by omega
        exact step_mk (xs_rw (c_X3_shares_ok l G (ad 0 0 0) (ad 1 0) (C 0) (C 2) (ad 3 0) (C 5) F (ad 8 0) rr (it rr) s i1 N M (hr8) (hs) (dN) (hN8) (dM) (hM5) (e1) (hi40)) (fun _ _ h => h) (xr_0_2_5_14_15 G ad C it F FS RS RF MD MF cs rr hr8) (xr_0_2_5_14_15 G ad (lzF C 0 (upd (C 0) 3 (lookF ((C 2) rr) (nI i1) ((C 5) 3)))) it F FS RS RF MD MF cs rr hr8 )) (ms_rw (c_X4_shares_ok l G (ad 11 0 0) (ad 12 0) (B 0) (B 1) (B 2) (B 3) (B 4) s rr i1 N M (hr8) (fN) (hN8) (fM) (hM5) (hs) ((lane_pos q4).1) (by rw [← q1, ← eM]; exact plc_f hn0c hp) (hi40)) (fun _ _ h => h.trans (shr_eq (g := B 3) (h := it rr) hD q5 hi40 hs)) (mp_0_1_2_3_4 G ad B wy) (mp_0_1_2_3_4 G ad (lzF B 0 (upd (upd (B 0) 0 0) 1 0)) wy)) (rel_find hR e2)
set_option maxHeartbeats 1000000 in
set_option maxRecDepth 100000 in
theorem st_kinds (hR : Rel C it F RS RF MD MF B) (a : Int32) (b : Int32) (c : Int32) : stepX l G ad aK aV yX3_kinds wsX3_kinds yX4_kinds wsX4_kinds [.int a, .int b, .int c] C it F FS RS RF MD MF cs B wy := by
  obtain ⟨N, M, hD⟩ := hR.1
  obtain ⟨dN, fN, hN8⟩ := rd_hN hD
  obtain ⟨dM, fM, hM5⟩ := rd_hM hD
  have eN : C 5 2 = B 4 2 := dN.trans fN.symm
  have eM : C 5 3 = B 4 3 := dM.trans fM.symm
  cases hb : (inR a 0 (C 5 2 - 1) && inR b 0 7)
  · exact step_mk (xs_ro (c_X3_kinds_bad l G (ad 0 0 0) (ad 1 0) (C 0) (ad 3 0) (C 5) F a b c (hb)) (fun _ h => h) (xp_0_5 G ad C it F FS RS RF MD MF cs)) (ms_rw (c_X4_kinds_bad l G (ad 11 0 0) (ad 12 0) (B 0) (B 4) a b c (eN ▸ hb)) (fun _ _ h => h) (mp_0_4 G ad B wy) (mp_0_4 G ad (lzF B 0 (upd (B 0) 0 0)) wy)) (rel_th hR)
  · obtain ⟨hb1, hb2⟩ := Bool.and_eq_true_iff.mp hb
    obtain ⟨s, hs, rfl⟩ := idx_nat dN (by omega) hb1
    obtain ⟨rr, hrr, rfl⟩ := in_nat (n := 7) (by decide) hb2
    have hr8 : rr < 8 := by omega
    have hn0c : ¬ C 5 3 < 0 := by rw [dM]; exact nI_nneg (by omega)
    rcases hR.2.2.2.2.1 rr hr8 with ⟨q1, q2⟩ | ⟨q1, q2, ⟨n0, hn0, q3⟩, q4, q5⟩
    · obtain ⟨e1, e2⟩ := look_no (i := c) (n := C 5 3) q1
      exact step_mk (xs_rw (c_X3_kinds_no l G (ad 0 0 0) (ad 1 0) (C 0) (C 2) (ad 3 0) (C 5) F rr s N c (hr8) (dN) (hN8) (hs) (by rw [e1]; decide)) (fun _ _ h => h.trans e1) (xp_0_2_5 G ad C it F FS RS RF MD MF cs) (xp_0_2_5 G ad (lzF C 0 (upd (C 0) 3 (lookF ((C 2) rr) c ((C 5) 3)))) it F FS RS RF MD MF cs)) (ms_rw (c_X4_kinds_null l G (ad 11 0 0) (ad 12 0) (B 0) (B 1) (B 2) (B 3) (B 4) s N rr c (hr8) (fN) (hN8) (hs) (by rw [q2]; decide)) (fun _ _ h => h) (mp_0_1_2_3_4 G ad B wy) (mp_0_1_2_3_4 G ad (lzF B 0 (upd (upd (B 0) 0 0) 1 1)) wy)) (rel_find hR e2)
    · have hne : ¬ C 2 rr = -1000000 := by rw [q1, q3]; exact nI_none2 hn0
      cases hp : hasB (C 2 rr) c (C 5 3)
      · obtain ⟨e1, e2⟩ := look_pl hne hp
        exact step_mk (xs_rw (c_X3_kinds_no l G (ad 0 0 0) (ad 1 0) (C 0) (C 2) (ad 3 0) (C 5) F rr s N c (hr8) (dN) (hN8) (hs) (by rw [e1]; decide)) (fun _ _ h => h.trans e1) (xp_0_2_5 G ad C it F FS RS RF MD MF cs) (xp_0_2_5 G ad (lzF C 0 (upd (C 0) 3 (lookF ((C 2) rr) c ((C 5) 3)))) it F FS RS RF MD MF cs)) (ms_rw (c_X4_kinds_place l G (ad 11 0 0) (ad 12 0) (B 0) (B 1) (B 2) (B 3) (B 4) s N rr c (hr8) (fN) (hN8) (hs) ((lane_pos q4).1) (by rw [← q1, ← eM]; exact plc_t hn0c hp)) (fun _ _ h => h) (mp_0_1_2_3_4 G ad B wy) (mp_0_1_2_3_4 G ad (lzF B 0 (upd (upd (B 0) 0 0) 1 2)) wy)) (rel_find hR e2)
      · obtain ⟨e1, e2⟩ := look_ok hne hp
        obtain ⟨i1, b1, rfl, eb, hib⟩ := has_room hn0 (show hasB (nI n0) c (nI M) = true by rw [← q3, ← q1, ← dM]; exact hp)
        have hb9 : b1 = M := ((nI_eq (by omega) (by omega)).mp eb).symm
        have hi40 : i1 + M ≤ 40 := by omega
        exact step_mk (xs_rw (c_X3_kinds_ok l G (ad 0 0 0) (ad 1 0) (C 0) (C 2) (ad 3 0) (C 5) F (ad 8 0) rr (it rr) s i1 N M (hr8) (hs) (dN) (hN8) (dM) (hM5) (e1) (hi40)) (fun _ _ h => h) (xr_0_2_5_14_15 G ad C it F FS RS RF MD MF cs rr hr8) (xr_0_2_5_14_15 G ad (lzF C 0 (upd (C 0) 3 (lookF ((C 2) rr) (nI i1) ((C 5) 3)))) it F FS RS RF MD MF cs rr hr8 )) (ms_rw (c_X4_kinds_ok l G (ad 11 0 0) (ad 12 0) (B 0) (B 1) (B 2) (B 3) (B 4) s rr i1 N M (hr8) (fN) (hN8) (fM) (hM5) (hs) ((lane_pos q4).1) (by rw [← q1, ← eM]; exact plc_f hn0c hp) (hi40)) (fun _ _ h => h.trans (knd_eq (g := B 3) (h := it rr) hD q5 hi40 hs)) (mp_0_1_2_3_4 G ad B wy) (mp_0_1_2_3_4 G ad (lzF B 0 (upd (upd (B 0) 0 0) 1 0)) wy)) (rel_find hR e2)
set_option maxHeartbeats 1000000 in
set_option maxRecDepth 100000 in
theorem st_who (hR : Rel C it F RS RF MD MF B) (a : Int32) (b : Int32) : stepX l G ad aK aV yX3_who wsX3_who yX4_who wsX4_who [.int a, .int b] C it F FS RS RF MD MF cs B wy := by
  obtain ⟨N, M, hD⟩ := hR.1
  obtain ⟨dN, fN, hN8⟩ := rd_hN hD
  obtain ⟨dM, fM, hM5⟩ := rd_hM hD
  have eN : C 5 2 = B 4 2 := dN.trans fN.symm
  have eM : C 5 3 = B 4 3 := dM.trans fM.symm
  cases hr : (decide (0 < C 5 2) && decide (0 < C 5 3))
  · exact step_mk (xs_ro (c_X3_who_state l G (ad 0 0 0) (ad 1 0) (C 0) (ad 3 0) (C 5) F a b (hr)) (fun _ h => h) (xp_0_5 G ad C it F FS RS RF MD MF cs)) (ms_rw (c_X4_who_state l G (ad 11 0 0) (ad 12 0) (B 0) (B 4) a b ((rd_read hD).symm.trans hr)) (fun _ _ h => h) (mp_0_4 G ad B wy) (mp_0_4 G ad (lzF B 0 (upd (B 0) 0 0)) wy)) (rel_th hR)
  · have hrm : decide (0 < B 4 0) = true := (rd_read hD).symm.trans hr
    cases hb : inR a 0 7
    · exact step_mk (xs_ro (c_X3_who_bad l G (ad 0 0 0) (ad 1 0) (C 0) (ad 3 0) (C 5) F a b (hr) (hb)) (fun _ h => h) (xp_0_5 G ad C it F FS RS RF MD MF cs)) (ms_rw (c_X4_who_bad l G (ad 11 0 0) (ad 12 0) (B 0) (B 4) a b (hrm) (hb)) (fun _ _ h => h) (mp_0_4 G ad B wy) (mp_0_4 G ad (lzF B 0 (upd (B 0) 0 0)) wy)) (rel_th hR)
    · skip
      obtain ⟨rr, hrr, rfl⟩ := in_nat (n := 7) (by decide) hb
      have hr8 : rr < 8 := by omega
      have hn0c : ¬ C 5 2 < 0 := by rw [dN]; exact nI_nneg (by omega)
      rcases hR.2.2.2.2.1 rr hr8 with ⟨q1, q2⟩ | ⟨q1, q2, ⟨n0, hn0, q3⟩, q4, q5⟩
      · obtain ⟨e1, e2⟩ := look_no (i := b) (n := C 5 2) q1
        exact step_mk (xs_rw (c_X3_who_no l G (ad 0 0 0) (ad 1 0) (C 0) (C 2) (ad 3 0) (C 5) F rr b (hr) (hr8) (by rw [e1]; decide)) (fun _ _ h => h.trans e1) (xp_0_2_5 G ad C it F FS RS RF MD MF cs) (xp_0_2_5 G ad (lzF C 0 (upd (C 0) 3 (lookF ((C 2) rr) b ((C 5) 2)))) it F FS RS RF MD MF cs)) (ms_rw (c_X4_who_null l G (ad 11 0 0) (ad 12 0) (B 0) (B 1) (B 2) (B 3) (B 4) rr b (hr8) (hrm) (by rw [q2]; decide)) (fun _ _ h => h) (mp_0_1_2_3_4 G ad B wy) (mp_0_1_2_3_4 G ad (lzF B 0 (upd (upd (B 0) 0 0) 1 1)) wy)) (rel_find hR e2)
      · have hne : ¬ C 2 rr = -1000000 := by rw [q1, q3]; exact nI_none2 hn0
        cases hp : hasB (C 2 rr) b (C 5 2)
        · obtain ⟨e1, e2⟩ := look_pl hne hp
          exact step_mk (xs_rw (c_X3_who_no l G (ad 0 0 0) (ad 1 0) (C 0) (C 2) (ad 3 0) (C 5) F rr b (hr) (hr8) (by rw [e1]; decide)) (fun _ _ h => h.trans e1) (xp_0_2_5 G ad C it F FS RS RF MD MF cs) (xp_0_2_5 G ad (lzF C 0 (upd (C 0) 3 (lookF ((C 2) rr) b ((C 5) 2)))) it F FS RS RF MD MF cs)) (ms_rw (c_X4_who_place l G (ad 11 0 0) (ad 12 0) (B 0) (B 1) (B 2) (B 3) (B 4) rr b (hr8) (hrm) ((lane_pos q4).1) (by rw [← q1, ← eN]; exact plc_t hn0c hp)) (fun _ _ h => h) (mp_0_1_2_3_4 G ad B wy) (mp_0_1_2_3_4 G ad (lzF B 0 (upd (upd (B 0) 0 0) 1 2)) wy)) (rel_find hR e2)
        · obtain ⟨e1, e2⟩ := look_ok hne hp
          obtain ⟨i1, b1, rfl, eb, hib⟩ := has_room hn0 (show hasB (nI n0) b (nI N) = true by rw [← q3, ← q1, ← dN]; exact hp)
          have hb9 : b1 = N := ((nI_eq (by omega) (by omega)).mp eb).symm
          have hi40 : i1 + N ≤ 40 := by omega
          exact step_mk (xs_rw (c_X3_who_ok l G (ad 0 0 0) (ad 1 0) (C 0) (C 2) (ad 3 0) (C 5) F (ad 8 0) rr (it rr) i1 N M (hr) (hr8) (dN) (hN8) (dM) (hM5) (e1) (hi40)) (fun _ _ h => h) (xr_0_2_5_14_15 G ad C it F FS RS RF MD MF cs rr hr8) (xr_0_2_5_14_15 G ad (lzF C 0 (upd (C 0) 3 (lookF ((C 2) rr) (nI i1) ((C 5) 2)))) it F FS RS RF MD MF cs rr hr8 )) (ms_rw (c_X4_who_ok l G (ad 11 0 0) (ad 12 0) (B 0) (B 1) (B 2) (B 3) (B 4) rr i1 N M (hr8) (hrm) (fN) (hN8) (fM) (hM5) ((lane_pos q4).1) (by rw [← q1, ← eN]; exact plc_f hn0c hp) (hi40)) (fun _ _ h => h.trans (who_eq (g := B 3) (h := it rr) hD q5 hi40)) (mp_0_1_2_3_4 G ad B wy) (mp_0_1_2_3_4 G ad (lzF B 0 (upd (upd (B 0) 0 0) 1 0)) wy)) (rel_find hR e2)
set_option maxHeartbeats 1000000 in
set_option maxRecDepth 100000 in
theorem st_cares (hR : Rel C it F RS RF MD MF B) (a : Int32) (b : Int32) (c : Int32) : stepX l G ad aK aV yX3_cares wsX3_cares yX4_cares wsX4_cares [.int a, .int b, .int c] C it F FS RS RF MD MF cs B wy := by
  obtain ⟨N, M, hD⟩ := hR.1
  obtain ⟨dN, fN, hN8⟩ := rd_hN hD
  obtain ⟨dM, fM, hM5⟩ := rd_hM hD
  have eN : C 5 2 = B 4 2 := dN.trans fN.symm
  have eM : C 5 3 = B 4 3 := dM.trans fM.symm
  cases hr : (decide (0 < C 5 2) && decide (0 < C 5 3))
  · exact step_mk (xs_ro (c_X3_cares_state l G (ad 0 0 0) (ad 1 0) (C 0) (ad 3 0) (C 5) F a b c (hr)) (fun _ h => h) (xp_0_5 G ad C it F FS RS RF MD MF cs)) (ms_rw (c_X4_cares_state l G (ad 11 0 0) (ad 12 0) (B 0) (B 4) a b c ((rd_read hD).symm.trans hr)) (fun _ _ h => h) (mp_0_4 G ad B wy) (mp_0_4 G ad (lzF B 0 (upd (B 0) 0 0)) wy)) (rel_th hR)
  · have hrm : decide (0 < B 4 0) = true := (rd_read hD).symm.trans hr
    cases hb : (inR a 0 9 && inR b 0 7)
    · exact step_mk (xs_ro (c_X3_cares_bad l G (ad 0 0 0) (ad 1 0) (C 0) (ad 3 0) (C 5) F a b c (hr) (hb)) (fun _ h => h) (xp_0_5 G ad C it F FS RS RF MD MF cs)) (ms_rw (c_X4_cares_bad l G (ad 11 0 0) (ad 12 0) (B 0) (B 4) a b c (hrm) (hb)) (fun _ _ h => h) (mp_0_4 G ad B wy) (mp_0_4 G ad (lzF B 0 (upd (B 0) 0 0)) wy)) (rel_th hR)
    · obtain ⟨hb1, hb2⟩ := Bool.and_eq_true_iff.mp hb
      obtain ⟨rr, hrr, rfl⟩ := in_nat (n := 7) (by decide) hb2
      have hr8 : rr < 8 := by omega
      have hn0c : ¬ C 5 2 < 0 := by rw [dN]; exact nI_nneg (by omega)
      rcases hR.2.2.2.2.1 rr hr8 with ⟨q1, q2⟩ | ⟨q1, q2, ⟨n0, hn0, q3⟩, q4, q5⟩
      · obtain ⟨e1, e2⟩ := look_no (i := c) (n := C 5 2) q1
        exact step_mk (xs_rw (c_X3_cares_no l G (ad 0 0 0) (ad 1 0) (C 0) (C 2) (ad 3 0) (C 5) F rr a c (hr) (hr8) (hb1) (by rw [e1]; decide)) (fun _ _ h => h.trans e1) (xp_0_2_5 G ad C it F FS RS RF MD MF cs) (xp_0_2_5 G ad (lzF C 0 (upd (C 0) 3 (lookF ((C 2) rr) c ((C 5) 2)))) it F FS RS RF MD MF cs)) (ms_rw (c_X4_cares_null l G (ad 11 0 0) (ad 12 0) (B 0) (B 1) (B 2) (B 3) (B 4) a rr c (hr8) (hrm) (hb1) (by rw [q2]; decide)) (fun _ _ h => h) (mp_0_1_2_3_4 G ad B wy) (mp_0_1_2_3_4 G ad (lzF B 0 (upd (upd (B 0) 0 0) 1 1)) wy)) (rel_find hR e2)
      · have hne : ¬ C 2 rr = -1000000 := by rw [q1, q3]; exact nI_none2 hn0
        cases hp : hasB (C 2 rr) c (C 5 2)
        · obtain ⟨e1, e2⟩ := look_pl hne hp
          exact step_mk (xs_rw (c_X3_cares_no l G (ad 0 0 0) (ad 1 0) (C 0) (C 2) (ad 3 0) (C 5) F rr a c (hr) (hr8) (hb1) (by rw [e1]; decide)) (fun _ _ h => h.trans e1) (xp_0_2_5 G ad C it F FS RS RF MD MF cs) (xp_0_2_5 G ad (lzF C 0 (upd (C 0) 3 (lookF ((C 2) rr) c ((C 5) 2)))) it F FS RS RF MD MF cs)) (ms_rw (c_X4_cares_place l G (ad 11 0 0) (ad 12 0) (B 0) (B 1) (B 2) (B 3) (B 4) a rr c (hr8) (hrm) (hb1) ((lane_pos q4).1) (by rw [← q1, ← eN]; exact plc_t hn0c hp)) (fun _ _ h => h) (mp_0_1_2_3_4 G ad B wy) (mp_0_1_2_3_4 G ad (lzF B 0 (upd (upd (B 0) 0 0) 1 2)) wy)) (rel_find hR e2)
        · obtain ⟨e1, e2⟩ := look_ok hne hp
          obtain ⟨i1, b1, rfl, eb, hib⟩ := has_room hn0 (show hasB (nI n0) c (nI N) = true by rw [← q3, ← q1, ← dN]; exact hp)
          have hb9 : b1 = N := ((nI_eq (by omega) (by omega)).mp eb).symm
          have hi40 : i1 + N ≤ 40 := by omega
          exact step_mk (xs_rw (c_X3_cares_ok l G (ad 0 0 0) (ad 1 0) (C 0) (C 2) (ad 3 0) (C 5) F (ad 8 0) rr (it rr) a i1 N M (hr) (hr8) (hb1) (dN) (hN8) (dM) (hM5) (e1) (hi40)) (fun _ _ h => h) (xr_0_2_5_14_15 G ad C it F FS RS RF MD MF cs rr hr8) (xr_0_2_5_14_15 G ad (lzF C 0 (upd (C 0) 3 (lookF ((C 2) rr) (nI i1) ((C 5) 2)))) it F FS RS RF MD MF cs rr hr8 )) (ms_rw (c_X4_cares_ok l G (ad 11 0 0) (ad 12 0) (B 0) (B 1) (B 2) (B 3) (B 4) a rr i1 N M (hr8) (hrm) (hb1) (fN) (hN8) (fM) (hM5) ((lane_pos q4).1) (by rw [← q1, ← eN]; exact plc_f hn0c hp) (hi40)) (fun _ _ h => h.trans (car_eq (g := B 3) (h := it rr) hD q5 hi40)) (mp_0_1_2_3_4 G ad B wy) (mp_0_1_2_3_4 G ad (lzF B 0 (upd (upd (B 0) 0 0) 1 0)) wy)) (rel_find hR e2)
set_option maxHeartbeats 1000000 in
set_option maxRecDepth 100000 in
theorem st_copy (hR : Rel C it F RS RF MD MF B) (a : Int32) (i : Int32) (b : Int32) (j : Int32) (n : Int32) : stepX l G ad aK aV yX3_copy wsX3_copy yX4_copy wsX4_copy [.int a, .int i, .int b, .int j, .int n] C it F FS RS RF MD MF cs B wy := by
  cases hb : (inR a 0 7 && inR b 0 7)
  · exact step_mk (xs_ro (c_X3_copy_bad l G (ad 0 0 0) (ad 1 0) (C 0) a i b j n (hb)) (fun _ h => h) (xp_0 G ad C it F FS RS RF MD MF cs)) (ms_rw (c_X4_copy_bad l G (ad 11 0 0) (ad 12 0) (B 0) (B 1) (B 2) (B 3) a i b j n (hb)) (fun _ _ h => h) (mp_0_1_2_3 G ad B wy) (mp_0_1_2_3 G ad (lzF B 0 (upd (B 0) 0 0)) wy)) (rel_th hR)
  · obtain ⟨hb1, hb2⟩ := Bool.and_eq_true_iff.mp hb
    obtain ⟨ra, hra, rfl⟩ := in_nat (n := 7) (by decide) hb1
    obtain ⟨rb, hrb, rfl⟩ := in_nat (n := 7) (by decide) hb2
    have ha8 : ra < 8 := by omega
    have hb8 : rb < 8 := by omega
    rcases hR.2.2.2.2.1 ra ha8 with ⟨q1, q2⟩ | ⟨q1, q2, ⟨na, hna, q3⟩, q4, q5⟩
    · exact step_mk (xs_rw (c_X3_copy_null l G (ad 0 0 0) (ad 1 0) (C 0) (C 1) (C 2) ra rb i j n (ha8) (hb8) (by simp [q1])) (fun _ _ h => h) (xp_0_1_2 G ad C it F FS RS RF MD MF cs) (xp_0_1_2 G ad (lzF C 0 (upd (C 0) 3 1)) it F FS RS RF MD MF cs)) (ms_rw (c_X4_copy_null l G (ad 11 0 0) (ad 12 0) (B 0) (B 1) (B 2) (B 3) ra rb i j n (ha8) (hb8) (fun h9 => absurd h9.1 (by rw [q2]; decide))) (fun _ _ h => h) (mp_0_1_2_3 G ad B wy) (mp_0_1_2_3 G ad (lzF B 0 (upd (upd (B 0) 0 0) 1 1)) wy)) (rel_find hR rfl)
    · have hm1 : decide (C 2 ra = -1000000) = false := decide_eq_false (by rw [q1, q3]; exact nI_none2 hna)
      have lane_pos_a := (lane_pos q4).1
      rcases hR.2.2.2.2.1 rb hb8 with ⟨p1, p2⟩ | ⟨p1, p2, ⟨nb, hnb, p3⟩, p4, p5⟩
      · exact step_mk (xs_rw (c_X3_copy_null l G (ad 0 0 0) (ad 1 0) (C 0) (C 1) (C 2) ra rb i j n (ha8) (hb8) (by simp [p1])) (fun _ _ h => h) (xp_0_1_2 G ad C it F FS RS RF MD MF cs) (xp_0_1_2 G ad (lzF C 0 (upd (C 0) 3 1)) it F FS RS RF MD MF cs)) (ms_rw (c_X4_copy_null l G (ad 11 0 0) (ad 12 0) (B 0) (B 1) (B 2) (B 3) ra rb i j n (ha8) (hb8) (fun h9 => absurd h9.2 (by rw [p2]; decide))) (fun _ _ h => h) (mp_0_1_2_3 G ad B wy) (mp_0_1_2_3 G ad (lzF B 0 (upd (upd (B 0) 0 0) 1 1)) wy)) (rel_find hR rfl)
      · have hm2 : decide (C 2 rb = -1000000) = false := decide_eq_false (by rw [p1, p3]; exact nI_none2 hnb)
        have lane_pos_b := (lane_pos p4).1
        by_cases hla : C 1 ra = C 1 rb
        · have hlm : B 1 ra = B 1 rb := by rw [← q2, ← p2]; exact hla
          cases hp : (hasB (C 2 ra) i n && hasB (C 2 rb) j n)
          · have hpm : cpyB (B 2 ra) (B 2 rb) i j n = false := by rw [← cpy_has, ← q1, ← p1]; exact hp
            exact step_mk (xs_rw (c_X3_copy_place l G (ad 0 0 0) (ad 1 0) (C 0) (C 1) (C 2) ra rb i j n (ha8) (hb8) (hm1) (hm2) (hla) (hp)) (fun _ _ h => h) (xp_0_1_2 G ad C it F FS RS RF MD MF cs) (xp_0_1_2 G ad (lzF C 0 (upd (C 0) 3 2)) it F FS RS RF MD MF cs)) (ms_rw (c_X4_copy_place l G (ad 11 0 0) (ad 12 0) (B 0) (B 1) (B 2) (B 3) ra rb i j n (ha8) (hb8) (lane_pos_a) (lane_pos_b) (hlm) (hpm)) (fun _ _ h => h) (mp_0_1_2_3 G ad B wy) (mp_0_1_2_3 G ad (lzF B 0 (upd (upd (B 0) 0 0) 1 2)) wy)) (rel_find hR rfl)
          · have hpm : cpyB (B 2 ra) (B 2 rb) i j n = true := by rw [← cpy_has, ← q1, ← p1]; exact hp
            obtain ⟨hp1, hp2⟩ := Bool.and_eq_true_iff.mp hp
            obtain ⟨i1, n1, rfl, rfl, hi9⟩ := has_room hna (show hasB (nI na) i n = true by rw [← q3, ← q1]; exact hp1)
            obtain ⟨j1, n2, rfl, en, hj9⟩ := has_room hnb (show hasB (nI nb) j (nI n1) = true by rw [← p3, ← p1]; exact hp2)
            have en2 : n1 = n2 := (nI_eq (by omega) (by omega)).mp en
            have hi40 : i1 + n1 ≤ 40 := by omega
            have hj40 : j1 + n1 ≤ 40 := by omega
            by_cases hne : rb ≠ ra
            · by_cases hud : j1 ≤ i1
              · exact step_mk (xs_rw (c_X3_copy_two l G (ad 0 0 0) (ad 1 0) (C 0) (C 1) (C 2) (ad 8 0) ra rb (it ra) (it rb) i1 j1 n1 (ha8) (hb8) (hm1) (hm2) (hla) (hp1) (hp2) (hi40) (hj40)) (fun _ _ h => h) (xt_0_1_2_14_15 G ad C it F FS RS RF MD MF cs ra rb ha8 hb8 hne) (xt_0_1_2_14_15w G ad (lzF C 0 (upd (C 0) 3 0)) it F FS RS RF MD MF cs ra rb ha8 hb8 hne (va_cpy (it ra) (it rb) i1 j1 n1))) (ms_rw (c_X4_copy_up l G (ad 11 0 0) (ad 12 0) (B 0) (B 1) (B 2) (B 3) ra rb i1 j1 n1 (ha8) (hb8) (lane_pos_a) (lane_pos_b) (hlm) (hpm) (hi40) (hj40) (nI_le hud (by omega))) (fun _ _ h => h) (mp_0_1_2_3 G ad B wy) (mp_0_1_2_3 G ad (lzF (lzF B 0 (upd (upd (B 0) 0 0) 1 0)) 3 (cpyU (B 3) (40 * ra + i1) (40 * rb + j1) n1)) wy)) (rel_rows hR (fun r h => rowQ_copy hi40 hj40 (fun p => cpyU_at (g := B 3) (n := n1) (show 40 * rb + j1 ≤ 40 * ra + i1 ∨ 40 * ra + i1 + n1 ≤ 40 * rb + j1 by omega) n1 (Nat.le_refl _) p) q5 (hR.2.2.2.2.1 r h)) rfl rfl rfl (fun k hk => by rw [lzF_ne (by omega)]) rfl rfl rfl rfl (fun k hk => by rw [lzF_ne (by omega), lzF_ne (by omega)]))
              · exact step_mk (xs_rw (c_X3_copy_two l G (ad 0 0 0) (ad 1 0) (C 0) (C 1) (C 2) (ad 8 0) ra rb (it ra) (it rb) i1 j1 n1 (ha8) (hb8) (hm1) (hm2) (hla) (hp1) (hp2) (hi40) (hj40)) (fun _ _ h => h) (xt_0_1_2_14_15 G ad C it F FS RS RF MD MF cs ra rb ha8 hb8 hne) (xt_0_1_2_14_15w G ad (lzF C 0 (upd (C 0) 3 0)) it F FS RS RF MD MF cs ra rb ha8 hb8 hne (va_cpy (it ra) (it rb) i1 j1 n1))) (ms_rw (c_X4_copy_dn l G (ad 11 0 0) (ad 12 0) (B 0) (B 1) (B 2) (B 3) ra rb i1 j1 n1 (ha8) (hb8) (lane_pos_a) (lane_pos_b) (hlm) (hpm) (hi40) (hj40) ((nI_ltI (by omega) (by omega)).mpr (by omega))) (fun _ _ h => h) (mp_0_1_2_3 G ad B wy) (mp_0_1_2_3 G ad (lzF (lzF B 0 (upd (upd (B 0) 0 0) 1 0)) 3 (cpyD (B 3) (40 * ra + i1) (40 * rb + j1) n1 n1)) wy)) (rel_rows hR (fun r h => rowQ_copy hi40 hj40 (fun p => (cpyD_at (g := B 3) (n := n1) (show 40 * ra + i1 ≤ 40 * rb + j1 ∨ 40 * rb + j1 + n1 ≤ 40 * ra + i1 by omega) n1 (Nat.le_refl _) p).trans (by rw [Nat.sub_self, Nat.add_zero])) q5 (hR.2.2.2.2.1 r h)) rfl rfl rfl (fun k hk => by rw [lzF_ne (by omega)]) rfl rfl rfl rfl (fun k hk => by rw [lzF_ne (by omega), lzF_ne (by omega)]))
            · have hab : ra = rb := (Decidable.not_not.mp hne).symm
              subst hab
              by_cases hud : j1 ≤ i1
              · exact step_mk (xs_rw (c_X3_copy_one l G (ad 0 0 0) (ad 1 0) (C 0) (C 1) (C 2) (ad 8 0) ra (it ra) i1 j1 n1 (ha8) (hm1) (hp1) (hp2) (hi40) (hj40)) (fun _ _ h => h) (xr_0_1_2_14_15 G ad C it F FS RS RF MD MF cs ra ha8) (xr_0_1_2_14_15w G ad (lzF C 0 (upd (C 0) 3 0)) it F FS RS RF MD MF cs ra ha8 (va_cpy (it ra) (it ra) i1 j1 n1))) (ms_rw (c_X4_copy_up l G (ad 11 0 0) (ad 12 0) (B 0) (B 1) (B 2) (B 3) ra ra i1 j1 n1 (ha8) (ha8) (lane_pos_a) (lane_pos_a) (hlm) (hpm) (hi40) (hj40) (nI_le hud (by omega))) (fun _ _ h => h) (mp_0_1_2_3 G ad B wy) (mp_0_1_2_3 G ad (lzF (lzF B 0 (upd (upd (B 0) 0 0) 1 0)) 3 (cpyU (B 3) (40 * ra + i1) (40 * ra + j1) n1)) wy)) (rel_rows hR (fun r h => rowQ_copy hi40 hj40 (fun p => cpyU_at (g := B 3) (n := n1) (show 40 * ra + j1 ≤ 40 * ra + i1 ∨ 40 * ra + i1 + n1 ≤ 40 * ra + j1 by omega) n1 (Nat.le_refl _) p) q5 (hR.2.2.2.2.1 r h)) rfl rfl rfl (fun k hk => by rw [lzF_ne (by omega)]) rfl rfl rfl rfl (fun k hk => by rw [lzF_ne (by omega), lzF_ne (by omega)]))
              · exact step_mk (xs_rw (c_X3_copy_one l G (ad 0 0 0) (ad 1 0) (C 0) (C 1) (C 2) (ad 8 0) ra (it ra) i1 j1 n1 (ha8) (hm1) (hp1) (hp2) (hi40) (hj40)) (fun _ _ h => h) (xr_0_1_2_14_15 G ad C it F FS RS RF MD MF cs ra ha8) (xr_0_1_2_14_15w G ad (lzF C 0 (upd (C 0) 3 0)) it F FS RS RF MD MF cs ra ha8 (va_cpy (it ra) (it ra) i1 j1 n1))) (ms_rw (c_X4_copy_dn l G (ad 11 0 0) (ad 12 0) (B 0) (B 1) (B 2) (B 3) ra ra i1 j1 n1 (ha8) (ha8) (lane_pos_a) (lane_pos_a) (hlm) (hpm) (hi40) (hj40) ((nI_ltI (by omega) (by omega)).mpr (by omega))) (fun _ _ h => h) (mp_0_1_2_3 G ad B wy) (mp_0_1_2_3 G ad (lzF (lzF B 0 (upd (upd (B 0) 0 0) 1 0)) 3 (cpyD (B 3) (40 * ra + i1) (40 * ra + j1) n1 n1)) wy)) (rel_rows hR (fun r h => rowQ_copy hi40 hj40 (fun p => (cpyD_at (g := B 3) (n := n1) (show 40 * ra + i1 ≤ 40 * ra + j1 ∨ 40 * ra + j1 + n1 ≤ 40 * ra + i1 by omega) n1 (Nat.le_refl _) p).trans (by rw [Nat.sub_self, Nat.add_zero])) q5 (hR.2.2.2.2.1 r h)) rfl rfl rfl (fun k hk => by rw [lzF_ne (by omega)]) rfl rfl rfl rfl (fun k hk => by rw [lzF_ne (by omega), lzF_ne (by omega)]))
        · have hlm : ¬ B 1 ra = B 1 rb := by rw [← q2, ← p2]; exact hla
          exact step_mk (xs_rw (c_X3_copy_store l G (ad 0 0 0) (ad 1 0) (C 0) (C 1) (C 2) ra rb i j n (ha8) (hb8) (hm1) (hm2) (hla)) (fun _ _ h => h) (xp_0_1_2 G ad C it F FS RS RF MD MF cs) (xp_0_1_2 G ad (lzF C 0 (upd (C 0) 3 5)) it F FS RS RF MD MF cs)) (ms_rw (c_X4_copy_store l G (ad 11 0 0) (ad 12 0) (B 0) (B 1) (B 2) (B 3) ra rb i j n (ha8) (hb8) (lane_pos_a) (lane_pos_b) (hlm)) (fun _ _ h => h) (mp_0_1_2_3 G ad B wy) (mp_0_1_2_3 G ad (lzF B 0 (upd (upd (B 0) 0 0) 1 5)) wy)) (rel_find hR rfl)
set_option maxHeartbeats 1000000 in
set_option maxRecDepth 100000 in
theorem st_image (hR : Rel C it F RS RF MD MF B) (a : Int32) : stepX l G ad aK aV yX3_image wsX3_image yX4_image wsX4_image [.int a] C it F FS RS RF MD MF cs B wy := by
  obtain ⟨N, M, hD⟩ := hR.1
  obtain ⟨dN, fN, hN8⟩ := rd_hN hD
  obtain ⟨dM, fM, hM5⟩ := rd_hM hD
  have eN : C 5 2 = B 4 2 := dN.trans fN.symm
  have eM : C 5 3 = B 4 3 := dM.trans fM.symm
  cases hb : inR a 0 1
  · obtain ⟨im, him⟩ : ∃ im : Nat, im < 2 := ⟨0, by decide⟩
    exact step_mk (xs_ro (c_X3_image_bad l G (ad 0 0 0) (ad 1 0) (C 0) (ad 3 0) (C 5) F (ad 9 0) (ad 10) im (MD im) (MF im) a (hb)) (fun _ h => h) (xi_0_5_10_11 G ad C it F FS RS RF MD MF cs im him)) (ms_rw (c_X4_image_bad l G (ad 11 0 0) (ad 12 0) (B 0) (B 4) (B 9) (B 10) a (hb)) (fun _ _ h => h) (mp_0_4_10_11 G ad B wy) (mp_0_4_10_11 G ad (lzF B 0 (upd (B 0) 0 0)) wy)) (rel_th hR)
  · obtain ⟨im, him1, rfl⟩ := in_nat (n := 1) (by decide) hb
    have him : im < 2 := by omega
    cases hr : (decide (0 < C 5 2) && decide (0 < C 5 3))
    · exact step_mk (xs_ro (c_X3_image_state l G (ad 0 0 0) (ad 1 0) (C 0) (ad 3 0) (C 5) F (ad 9 0) (ad 10) im (MD im) (MF im) (him) (hr)) (fun _ h => h) (xi_0_5_10_11 G ad C it F FS RS RF MD MF cs im him)) (ms_rw (c_X4_image_state l G (ad 11 0 0) (ad 12 0) (B 0) (B 4) (B 9) (B 10) im (him) ((rd_read hD).symm.trans hr)) (fun _ _ h => h) (mp_0_4_10_11 G ad B wy) (mp_0_4_10_11 G ad (lzF B 0 (upd (B 0) 0 0)) wy)) (rel_th hR)
    · have hrm : decide (0 < B 4 0) = true := (rd_read hD).symm.trans hr
      exact step_mk (xs_rw (c_X3_image_ok l G (ad 0 0 0) (ad 1 0) (C 0) (ad 3 0) (C 5) F (ad 9 0) (ad 10) im (MD im) (MF im) (him) (hr)) (fun _ _ h => h) (xi_0_5_10_11 G ad C it F FS RS RF MD MF cs im him) (xi_0_5_10_11w G ad C it F FS RS RF MD MF cs im him (tfS (C 5) (MD im)) (tfF F (MF im)))) (ms_rw (c_X4_image_ok l G (ad 11 0 0) (ad 12 0) (B 0) (B 4) (B 9) (B 10) im (him) (hrm)) (fun _ _ h => h) (mp_0_4_10_11 G ad B wy) (mp_0_4_10_11 G ad (lzF (lzF (lzF B 0 (upd (B 0) 0 0)) 9 (upd (B 9) im 1)) 10 (putW (B 10) (B 4) im 64)) wy)) (⟨hR.1, hR.2.1, hR.2.2.1, hR.2.2.2.1, hR.2.2.2.2.1, hR.2.2.2.2.2.1, fun k hk => imQ_take hk hD (rd_readN hD hrm).1 (hR.2.2.2.2.2.2 k hk)⟩)
set_option maxHeartbeats 1000000 in
set_option maxRecDepth 100000 in
theorem st_restore (hR : Rel C it F RS RF MD MF B) (a : Int32) : stepX l G ad aK aV yX3_restore wsX3_restore yX4_restore wsX4_restore [.int a] C it F FS RS RF MD MF cs B wy := by
  cases hb : inR a 0 1
  · obtain ⟨im, him⟩ : ∃ im : Nat, im < 2 := ⟨0, by decide⟩
    exact step_mk (xs_ro (c_X3_restore_bad l G (ad 0 0 0) (ad 1 0) (C 0) (ad 3 0) (C 5) F (ad 9 0) (ad 10) im (MD im) (MF im) a (hb)) (fun _ h => h) (xi_0_5_10_11 G ad C it F FS RS RF MD MF cs im him)) (ms_rw (c_X4_restore_bad l G (ad 11 0 0) (ad 12 0) (B 0) (B 4) (B 9) (B 10) a (hb)) (fun _ _ h => h) (mp_0_4_10_11 G ad B wy) (mp_0_4_10_11 G ad (lzF B 0 (upd (B 0) 0 0)) wy)) (rel_th hR)
  · obtain ⟨im, him1, rfl⟩ := in_nat (n := 1) (by decide) hb
    have him : im < 2 := by omega
    rcases hR.2.2.2.2.2.2 im him with ⟨q1, q2⟩ | ⟨q1, N, M, h0, q2⟩
    · exact step_mk (xs_ro (c_X3_restore_state l G (ad 0 0 0) (ad 1 0) (C 0) (ad 3 0) (C 5) F (ad 9 0) (ad 10) im (MD im) (MF im) (him) (q2)) (fun _ h => h) (xi_0_5_10_11 G ad C it F FS RS RF MD MF cs im him)) (ms_rw (c_X4_restore_state l G (ad 11 0 0) (ad 12 0) (B 0) (B 4) (B 9) (B 10) im (him) (q1)) (fun _ _ h => h) (mp_0_4_10_11 G ad B wy) (mp_0_4_10_11 G ad (lzF B 0 (upd (B 0) 0 0)) wy)) (rel_th hR)
    · obtain ⟨X, K, hX, hK, v1, v2, b9, hA⟩ := hR.2.2.2.2.2.1
      exact step_mk (xs_rw (c_X3_restore_ok l G (ad 0 0 0) (ad 1 0) (C 0) (ad 3 0) (C 5) F (ad 9 0) (ad 10) im (MD im) (MF im) (ad 5 0) (C 7) (him) (rd_yes q2 h0)) (fun _ _ h => h) (xi_0_5_10_11_7 G ad C it F FS RS RF MD MF cs im him) (xi_0_5_10_11_7 G ad (lzF (lzF C 5 (tfS (MD im) (C 5))) 7 (upd (C 7) 2 0)) it (tfF (MF im) F) FS RS RF MD MF cs im him )) (ms_rw (c_X4_restore_ok l G (ad 11 0 0) (ad 12 0) (B 0) (B 4) (B 9) (B 10) im (him) (q1)) (fun _ _ h => h) (mp_0_4_10_11 G ad B wy) (mp_0_4_10_11 G ad (lzF (lzF B 0 (upd (upd (B 0) 0 0) 9 0)) 4 (undF (B 10) (B 4) im 64)) wy)) (⟨⟨N, M, relD_take q2 (fun j hj => by show undF (B 10) (B 4) im 64 j = B 10 (64 * im + j); unfold undF; rw [if_pos hj])⟩, hR.2.1, hR.2.2.1, hR.2.2.2.1, hR.2.2.2.2.1, ⟨X, 0, hX, by omega, v1, rfl, rfl, fun i hi => absurd hi (Nat.not_lt_zero _)⟩, hR.2.2.2.2.2.2⟩)
end STP4
