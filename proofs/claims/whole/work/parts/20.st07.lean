set_option maxRecDepth 20000 in
theorem s300_3 {d : Nat} {st : List Value} {h : aM} {Q : Option Value → aM → Prop} {lv : aV} {x : Nat} : AW d 300 3 lv (.ref x :: st) h Q ↔ AW d 300 4 lv (.ref x :: .ref x :: st) h Q := w_st rfl rfl rfl rfl rfl
set_option maxRecDepth 20000 in
theorem s300_3i {d : Nat} {st : List Value} {h : aM} {Q : Option Value → aM → Prop} {lv : aV} {x : Int32} : AW d 300 3 lv (.int x :: st) h Q ↔ AW d 300 4 lv (.int x :: .int x :: st) h Q := w_st rfl rfl rfl rfl rfl
set_option maxRecDepth 20000 in
theorem s300_4 {d : Nat} {st : List Value} {h : aM} {Q : Option Value → aM → Prop} {lv : aV} {a : Nat} : AW (d + 1) 300 4 lv (.ref a :: st) h Q ↔ (True ∧ cs st ≤ 8) ∧ AW d 88 0 [some (.ref a), none] [] h (fun v h => AW (d + 1) 300 7 lv (v.toList ++ st) h Q) := w_c (k := 300) (pc := 4) (pc' := 7) (as := [.ref a]) (st := st) (st' := (.ref a :: st)) (lv' := [some (.ref a), none]) (h := h) (r3 := 0) rfl rfl rfl mi88 rfl rfl (Nat.le_of_ble_eq_true rfl) rc_i rfl rfl
set_option maxRecDepth 20000 in
theorem s300_7 {d : Nat} {st : List Value} {h : aM} {Q : Option Value → aM → Prop} {v0 v1 v2 v3 v4 v5 v6 : Option Value} {x : Nat} : AW d 300 7 [v0, v1, v2, v3, v4, v5, v6] (.ref x :: st) h Q ↔ AW d 300 8 [kl v0, some (.ref x), v2, v3, v4, v5, v6] st h Q := w_sv (i := 0) (x := .ref x) rfl rfl rfl rfl rfl rfl (Nat.le_of_ble_eq_true rfl) rfl
set_option maxRecDepth 20000 in
theorem s300_11 {d : Nat} {st : List Value} {h : aM} {Q : Option Value → aM → Prop} {lv : aV} {x : Nat} : AW d 300 11 lv (.ref x :: st) h Q ↔ AW d 300 12 lv (.ref x :: .ref x :: st) h Q := w_st rfl rfl rfl rfl rfl
set_option maxRecDepth 20000 in
theorem s300_11i {d : Nat} {st : List Value} {h : aM} {Q : Option Value → aM → Prop} {lv : aV} {x : Int32} : AW d 300 11 lv (.int x :: st) h Q ↔ AW d 300 12 lv (.int x :: .int x :: st) h Q := w_st rfl rfl rfl rfl rfl
set_option maxRecDepth 20000 in
theorem s300_12 {d : Nat} {st : List Value} {h : aM} {Q : Option Value → aM → Prop} {lv : aV} {a : Nat} : AW (d + 1) 300 12 lv (.ref a :: st) h Q ↔ (True ∧ cs st ≤ 8) ∧ AW d 163 0 [some (.ref a)] [] h (fun v h => AW (d + 1) 300 15 lv (v.toList ++ st) h Q) := w_c (k := 300) (pc := 12) (pc' := 15) (as := [.ref a]) (st := st) (st' := (.ref a :: st)) (lv' := [some (.ref a)]) (h := h) (r3 := 0) rfl rfl rfl mi163 rfl rfl (Nat.le_of_ble_eq_true rfl) rc_i rfl rfl
set_option maxRecDepth 20000 in
theorem s300_15 {d : Nat} {st : List Value} {h : aM} {Q : Option Value → aM → Prop} {v0 v1 v2 v3 v4 v5 v6 : Option Value} {x : Nat} : AW d 300 15 [v0, v1, v2, v3, v4, v5, v6] (.ref x :: st) h Q ↔ AW d 300 16 [v0, kl v1, some (.ref x), v3, v4, v5, v6] st h Q := w_sv (i := 1) (x := .ref x) rfl rfl rfl rfl rfl rfl (Nat.le_of_ble_eq_true rfl) rfl
set_option maxRecDepth 20000 in
theorem s300_16 {d : Nat} {st : List Value} {h : aM} {Q : Option Value → aM → Prop} {lv : aV} : AW d 300 16 lv st h Q ↔ AW d 300 17 lv (.int 1 :: st) h Q := w_st rfl rfl rfl rfl rfl
set_option maxRecDepth 20000 in
theorem s300_19 {d : Nat} {st : List Value} {h : aM} {Q : Option Value → aM → Prop} {v0 v1 v2 v3 v4 v5 v6 : Option Value} {x : Nat} : AW d 300 19 [v0, v1, v2, v3, v4, v5, v6] (.ref x :: st) h Q ↔ AW d 300 20 [v0, v1, kl v2, some (.ref x), v4, v5, v6] st h Q := w_sv (i := 2) (x := .ref x) rfl rfl rfl rfl rfl rfl (Nat.le_of_ble_eq_true rfl) rfl
set_option maxRecDepth 20000 in
theorem s300_20 {d : Nat} {st : List Value} {h : aM} {Q : Option Value → aM → Prop} {lv : aV} : AW d 300 20 lv st h Q ↔ AW d 300 21 lv (.int 0 :: st) h Q := w_st rfl rfl rfl rfl rfl
set_option maxRecDepth 20000 in
theorem s300_21 {d : Nat} {st : List Value} {h : aM} {Q : Option Value → aM → Prop} {v0 v1 v2 v3 v4 v5 v6 : Option Value} {x : Int32} : AW d 300 21 [v0, v1, v2, v3, v4, v5, v6] (.int x :: st) h Q ↔ AW d 300 23 [v0, v1, v2, kl v3, some (.int x), v5, v6] st h Q := w_sv (i := 3) (x := .int x) rfl rfl rfl rfl rfl rfl (Nat.le_of_ble_eq_true rfl) rfl
set_option maxRecDepth 20000 in
theorem s300_23 {d : Nat} {st : List Value} {h : aM} {Q : Option Value → aM → Prop} {v0 v1 v2 v3 v5 v6 : Option Value} {x : Int32} : AW d 300 23 [v0, v1, v2, v3, some (.int x), v5, v6] st h Q ↔ AW d 300 25 [v0, v1, v2, v3, some (.int x), v5, v6] (.int x :: st) h Q := w_st rfl rfl rfl rfl rfl
set_option maxRecDepth 20000 in
theorem s300_25 {d : Nat} {st : List Value} {h : aM} {Q : Option Value → aM → Prop} {v1 v2 v3 v4 v5 v6 : Option Value} {x : Nat} : AW d 300 25 [some (.ref x), v1, v2, v3, v4, v5, v6] st h Q ↔ AW d 300 26 [some (.ref x), v1, v2, v3, v4, v5, v6] (.ref x :: st) h Q := w_st rfl rfl rfl rfl rfl
set_option maxRecDepth 20000 in
theorem s300_26 {d : Nat} {st : List Value} {h : aM} {Q : Option Value → aM → Prop} {lv : aV} {a : Nat} : AW d 300 26 lv (.ref a :: st) h Q ↔ ∃ t m, sh h a = some (t, m) ∧ (100 ≤ t ∧ t < 107) ∧ AW d 300 27 lv (.int (nI m) :: st) h Q := w_len rfl rfl
set_option maxRecDepth 20000 in
theorem s300_27 {d : Nat} {st : List Value} {h : aM} {Q : Option Value → aM → Prop} {lv : aV} : AW d 300 27 lv st h Q ↔ AW d 300 29 lv (.int 6 :: st) h Q := w_st rfl rfl rfl rfl rfl
set_option maxRecDepth 20000 in
theorem s300_29 {d : Nat} {st : List Value} {h : aM} {Q : Option Value → aM → Prop} {lv : aV} {x y : Int32} : AW d 300 29 lv (.int y :: .int x :: st) h Q ↔ AW d 300 30 lv (.int (x - y) :: st) h Q := w_st rfl rfl rfl rfl rfl
set_option maxRecDepth 20000 in
theorem s300_30 {d : Nat} {st : List Value} {h : aM} {Q : Option Value → aM → Prop} {lv : aV} {x y : Int32} : AW d 300 30 lv (.int y :: .int x :: st) h Q ↔ if y < x then AW d 300 1709 lv st h Q else AW d 300 33 lv st h Q := w_if rfl rfl rfl rfl rfl c2_gt
set_option maxRecDepth 20000 in
theorem s300_33 {d : Nat} {st : List Value} {h : aM} {Q : Option Value → aM → Prop} {v1 v2 v3 v4 v5 v6 : Option Value} {x : Nat} : AW d 300 33 [some (.ref x), v1, v2, v3, v4, v5, v6] st h Q ↔ AW d 300 34 [some (.ref x), v1, v2, v3, v4, v5, v6] (.ref x :: st) h Q := w_st rfl rfl rfl rfl rfl
set_option maxRecDepth 20000 in
theorem s300_34 {d : Nat} {st : List Value} {h : aM} {Q : Option Value → aM → Prop} {v0 v1 v2 v3 v5 v6 : Option Value} {x : Int32} : AW d 300 34 [v0, v1, v2, v3, some (.int x), v5, v6] st h Q ↔ AW d 300 36 [v0, v1, v2, v3, some (.int x), v5, v6] (.int x :: st) h Q := w_st rfl rfl rfl rfl rfl
set_option maxRecDepth 20000 in
theorem s300_36 {d : Nat} {st : List Value} {h : aM} {Q : Option Value → aM → Prop} {lv : aV} {a : Nat} {i : Int32} : AW d 300 36 lv (.int i :: .ref a :: st) h Q ↔ inA h a 100 i ∧ AW d 300 37 lv (.int (gi h a i.toNatClampNeg) :: st) h Q := w_ite rfl rfl rfl rfl rfl aArr_iff
set_option maxRecDepth 20000 in
theorem s300_37 {d : Nat} {st : List Value} {h : aM} {Q : Option Value → aM → Prop} {lv : aV} : AW d 300 37 lv st h Q ↔ AW d 300 39 lv (.int 63 :: st) h Q := w_st rfl rfl rfl rfl rfl
set_option maxRecDepth 20000 in
theorem s300_39 {d : Nat} {st : List Value} {h : aM} {Q : Option Value → aM → Prop} {lv : aV} {x y : Int32} : AW d 300 39 lv (.int y :: .int x :: st) h Q ↔ AW d 300 40 lv (.int (x &&& y) :: st) h Q := w_st rfl rfl rfl rfl rfl
set_option maxRecDepth 20000 in
theorem s300_40_0 {d : Nat} {st : List Value} {h : aM} {Q : Option Value → aM → Prop} {lv : aV} : AW d 300 40 lv (.int 0 :: st) h Q ↔ AW d 300 232 lv st h Q := w_st rfl rfl rfl rfl rfl
set_option maxRecDepth 20000 in
theorem s300_40_1 {d : Nat} {st : List Value} {h : aM} {Q : Option Value → aM → Prop} {lv : aV} : AW d 300 40 lv (.int 1 :: st) h Q ↔ AW d 300 305 lv st h Q := w_st rfl rfl rfl rfl rfl
set_option maxRecDepth 20000 in
theorem s300_40_2 {d : Nat} {st : List Value} {h : aM} {Q : Option Value → aM → Prop} {lv : aV} : AW d 300 40 lv (.int 2 :: st) h Q ↔ AW d 300 330 lv st h Q := w_st rfl rfl rfl rfl rfl
set_option maxRecDepth 20000 in
theorem s300_40_3 {d : Nat} {st : List Value} {h : aM} {Q : Option Value → aM → Prop} {lv : aV} : AW d 300 40 lv (.int 3 :: st) h Q ↔ AW d 300 355 lv st h Q := w_st rfl rfl rfl rfl rfl
set_option maxRecDepth 20000 in
theorem s300_40_4 {d : Nat} {st : List Value} {h : aM} {Q : Option Value → aM → Prop} {lv : aV} : AW d 300 40 lv (.int 4 :: st) h Q ↔ AW d 300 380 lv st h Q := w_st rfl rfl rfl rfl rfl
set_option maxRecDepth 20000 in
theorem s300_40_5 {d : Nat} {st : List Value} {h : aM} {Q : Option Value → aM → Prop} {lv : aV} : AW d 300 40 lv (.int 5 :: st) h Q ↔ AW d 300 405 lv st h Q := w_st rfl rfl rfl rfl rfl
set_option maxRecDepth 20000 in
theorem s300_40_6 {d : Nat} {st : List Value} {h : aM} {Q : Option Value → aM → Prop} {lv : aV} : AW d 300 40 lv (.int 6 :: st) h Q ↔ AW d 300 473 lv st h Q := w_st rfl rfl rfl rfl rfl
set_option maxRecDepth 20000 in
theorem s300_40_7 {d : Nat} {st : List Value} {h : aM} {Q : Option Value → aM → Prop} {lv : aV} : AW d 300 40 lv (.int 7 :: st) h Q ↔ AW d 300 510 lv st h Q := w_st rfl rfl rfl rfl rfl
set_option maxRecDepth 20000 in
theorem s300_40_8 {d : Nat} {st : List Value} {h : aM} {Q : Option Value → aM → Prop} {lv : aV} : AW d 300 40 lv (.int 8 :: st) h Q ↔ AW d 300 535 lv st h Q := w_st rfl rfl rfl rfl rfl
set_option maxRecDepth 20000 in
theorem s300_40_9 {d : Nat} {st : List Value} {h : aM} {Q : Option Value → aM → Prop} {lv : aV} : AW d 300 40 lv (.int 9 :: st) h Q ↔ AW d 300 572 lv st h Q := w_st rfl rfl rfl rfl rfl
set_option maxRecDepth 20000 in
theorem s300_40_10 {d : Nat} {st : List Value} {h : aM} {Q : Option Value → aM → Prop} {lv : aV} : AW d 300 40 lv (.int 10 :: st) h Q ↔ AW d 300 609 lv st h Q := w_st rfl rfl rfl rfl rfl
set_option maxRecDepth 20000 in
theorem s300_40_11 {d : Nat} {st : List Value} {h : aM} {Q : Option Value → aM → Prop} {lv : aV} : AW d 300 40 lv (.int 11 :: st) h Q ↔ AW d 300 646 lv st h Q := w_st rfl rfl rfl rfl rfl
set_option maxRecDepth 20000 in
theorem s300_40_12 {d : Nat} {st : List Value} {h : aM} {Q : Option Value → aM → Prop} {lv : aV} : AW d 300 40 lv (.int 12 :: st) h Q ↔ AW d 300 671 lv st h Q := w_st rfl rfl rfl rfl rfl
set_option maxRecDepth 20000 in
theorem s300_40_13 {d : Nat} {st : List Value} {h : aM} {Q : Option Value → aM → Prop} {lv : aV} : AW d 300 40 lv (.int 13 :: st) h Q ↔ AW d 300 712 lv st h Q := w_st rfl rfl rfl rfl rfl
set_option maxRecDepth 20000 in
theorem s300_40_14 {d : Nat} {st : List Value} {h : aM} {Q : Option Value → aM → Prop} {lv : aV} : AW d 300 40 lv (.int 14 :: st) h Q ↔ AW d 300 737 lv st h Q := w_st rfl rfl rfl rfl rfl
set_option maxRecDepth 20000 in
theorem s300_40_15 {d : Nat} {st : List Value} {h : aM} {Q : Option Value → aM → Prop} {lv : aV} : AW d 300 40 lv (.int 15 :: st) h Q ↔ AW d 300 762 lv st h Q := w_st rfl rfl rfl rfl rfl
set_option maxRecDepth 20000 in
theorem s300_40_16 {d : Nat} {st : List Value} {h : aM} {Q : Option Value → aM → Prop} {lv : aV} : AW d 300 40 lv (.int 16 :: st) h Q ↔ AW d 300 787 lv st h Q := w_st rfl rfl rfl rfl rfl
set_option maxRecDepth 20000 in
theorem s300_40_17 {d : Nat} {st : List Value} {h : aM} {Q : Option Value → aM → Prop} {lv : aV} : AW d 300 40 lv (.int 17 :: st) h Q ↔ AW d 300 812 lv st h Q := w_st rfl rfl rfl rfl rfl
set_option maxRecDepth 20000 in
theorem s300_40_18 {d : Nat} {st : List Value} {h : aM} {Q : Option Value → aM → Prop} {lv : aV} : AW d 300 40 lv (.int 18 :: st) h Q ↔ AW d 300 881 lv st h Q := w_st rfl rfl rfl rfl rfl
set_option maxRecDepth 20000 in
theorem s300_40_19 {d : Nat} {st : List Value} {h : aM} {Q : Option Value → aM → Prop} {lv : aV} : AW d 300 40 lv (.int 19 :: st) h Q ↔ AW d 300 906 lv st h Q := w_st rfl rfl rfl rfl rfl
set_option maxRecDepth 20000 in
theorem s300_40_20 {d : Nat} {st : List Value} {h : aM} {Q : Option Value → aM → Prop} {lv : aV} : AW d 300 40 lv (.int 20 :: st) h Q ↔ AW d 300 919 lv st h Q := w_st rfl rfl rfl rfl rfl
set_option maxRecDepth 20000 in
theorem s300_40_21 {d : Nat} {st : List Value} {h : aM} {Q : Option Value → aM → Prop} {lv : aV} : AW d 300 40 lv (.int 21 :: st) h Q ↔ AW d 300 956 lv st h Q := w_st rfl rfl rfl rfl rfl
set_option maxRecDepth 20000 in
theorem s300_40_22 {d : Nat} {st : List Value} {h : aM} {Q : Option Value → aM → Prop} {lv : aV} : AW d 300 40 lv (.int 22 :: st) h Q ↔ AW d 300 981 lv st h Q := w_st rfl rfl rfl rfl rfl
set_option maxRecDepth 20000 in
theorem s300_40_23 {d : Nat} {st : List Value} {h : aM} {Q : Option Value → aM → Prop} {lv : aV} : AW d 300 40 lv (.int 23 :: st) h Q ↔ AW d 300 1006 lv st h Q := w_st rfl rfl rfl rfl rfl
set_option maxRecDepth 20000 in
theorem s300_40_24 {d : Nat} {st : List Value} {h : aM} {Q : Option Value → aM → Prop} {lv : aV} : AW d 300 40 lv (.int 24 :: st) h Q ↔ AW d 300 1031 lv st h Q := w_st rfl rfl rfl rfl rfl
set_option maxRecDepth 20000 in
theorem s300_40_25 {d : Nat} {st : List Value} {h : aM} {Q : Option Value → aM → Prop} {lv : aV} : AW d 300 40 lv (.int 25 :: st) h Q ↔ AW d 300 1068 lv st h Q := w_st rfl rfl rfl rfl rfl
set_option maxRecDepth 20000 in
theorem s300_40_26 {d : Nat} {st : List Value} {h : aM} {Q : Option Value → aM → Prop} {lv : aV} : AW d 300 40 lv (.int 26 :: st) h Q ↔ AW d 300 1105 lv st h Q := w_st rfl rfl rfl rfl rfl
set_option maxRecDepth 20000 in
theorem s300_40_27 {d : Nat} {st : List Value} {h : aM} {Q : Option Value → aM → Prop} {lv : aV} : AW d 300 40 lv (.int 27 :: st) h Q ↔ AW d 300 1130 lv st h Q := w_st rfl rfl rfl rfl rfl
set_option maxRecDepth 20000 in
theorem s300_40_28 {d : Nat} {st : List Value} {h : aM} {Q : Option Value → aM → Prop} {lv : aV} : AW d 300 40 lv (.int 28 :: st) h Q ↔ AW d 300 1155 lv st h Q := w_st rfl rfl rfl rfl rfl
set_option maxRecDepth 20000 in
theorem s300_40_29 {d : Nat} {st : List Value} {h : aM} {Q : Option Value → aM → Prop} {lv : aV} : AW d 300 40 lv (.int 29 :: st) h Q ↔ AW d 300 1220 lv st h Q := w_st rfl rfl rfl rfl rfl
set_option maxRecDepth 20000 in
theorem s300_40_30 {d : Nat} {st : List Value} {h : aM} {Q : Option Value → aM → Prop} {lv : aV} : AW d 300 40 lv (.int 30 :: st) h Q ↔ AW d 300 1257 lv st h Q := w_st rfl rfl rfl rfl rfl
set_option maxRecDepth 20000 in
theorem s300_40_31 {d : Nat} {st : List Value} {h : aM} {Q : Option Value → aM → Prop} {lv : aV} : AW d 300 40 lv (.int 31 :: st) h Q ↔ AW d 300 1282 lv st h Q := w_st rfl rfl rfl rfl rfl
set_option maxRecDepth 20000 in
theorem s300_40_32 {d : Nat} {st : List Value} {h : aM} {Q : Option Value → aM → Prop} {lv : aV} : AW d 300 40 lv (.int 32 :: st) h Q ↔ AW d 300 1331 lv st h Q := w_st rfl rfl rfl rfl rfl
set_option maxRecDepth 20000 in
theorem s300_40_33 {d : Nat} {st : List Value} {h : aM} {Q : Option Value → aM → Prop} {lv : aV} : AW d 300 40 lv (.int 33 :: st) h Q ↔ AW d 300 1356 lv st h Q := w_st rfl rfl rfl rfl rfl
set_option maxRecDepth 20000 in
theorem s300_40_34 {d : Nat} {st : List Value} {h : aM} {Q : Option Value → aM → Prop} {lv : aV} : AW d 300 40 lv (.int 34 :: st) h Q ↔ AW d 300 1429 lv st h Q := w_st rfl rfl rfl rfl rfl
set_option maxRecDepth 20000 in
theorem s300_40_35 {d : Nat} {st : List Value} {h : aM} {Q : Option Value → aM → Prop} {lv : aV} : AW d 300 40 lv (.int 35 :: st) h Q ↔ AW d 300 1478 lv st h Q := w_st rfl rfl rfl rfl rfl
set_option maxRecDepth 20000 in
theorem s300_40_36 {d : Nat} {st : List Value} {h : aM} {Q : Option Value → aM → Prop} {lv : aV} : AW d 300 40 lv (.int 36 :: st) h Q ↔ AW d 300 1515 lv st h Q := w_st rfl rfl rfl rfl rfl
set_option maxRecDepth 20000 in
theorem s300_40_37 {d : Nat} {st : List Value} {h : aM} {Q : Option Value → aM → Prop} {lv : aV} : AW d 300 40 lv (.int 37 :: st) h Q ↔ AW d 300 1540 lv st h Q := w_st rfl rfl rfl rfl rfl
set_option maxRecDepth 20000 in
theorem s300_40_38 {d : Nat} {st : List Value} {h : aM} {Q : Option Value → aM → Prop} {lv : aV} : AW d 300 40 lv (.int 38 :: st) h Q ↔ AW d 300 1565 lv st h Q := w_st rfl rfl rfl rfl rfl
set_option maxRecDepth 20000 in
theorem s300_40_39 {d : Nat} {st : List Value} {h : aM} {Q : Option Value → aM → Prop} {lv : aV} : AW d 300 40 lv (.int 39 :: st) h Q ↔ AW d 300 1590 lv st h Q := w_st rfl rfl rfl rfl rfl
set_option maxRecDepth 20000 in
theorem s300_40_40 {d : Nat} {st : List Value} {h : aM} {Q : Option Value → aM → Prop} {lv : aV} : AW d 300 40 lv (.int 40 :: st) h Q ↔ AW d 300 1615 lv st h Q := w_st rfl rfl rfl rfl rfl
set_option maxRecDepth 20000 in
theorem s300_40_41 {d : Nat} {st : List Value} {h : aM} {Q : Option Value → aM → Prop} {lv : aV} : AW d 300 40 lv (.int 41 :: st) h Q ↔ AW d 300 1652 lv st h Q := w_st rfl rfl rfl rfl rfl
set_option maxRecDepth 20000 in
theorem s300_40_42 {d : Nat} {st : List Value} {h : aM} {Q : Option Value → aM → Prop} {lv : aV} : AW d 300 40 lv (.int 42 :: st) h Q ↔ AW d 300 1665 lv st h Q := w_st rfl rfl rfl rfl rfl
set_option maxRecDepth 20000 in
theorem s300_40_43 {d : Nat} {st : List Value} {h : aM} {Q : Option Value → aM → Prop} {lv : aV} : AW d 300 40 lv (.int 43 :: st) h Q ↔ AW d 300 1678 lv st h Q := w_st rfl rfl rfl rfl rfl
set_option maxRecDepth 20000 in
theorem s300_40_d {d : Nat} {st : List Value} {h : aM} {Q : Option Value → aM → Prop} {lv : aV} {x : Int32} (hx : x.toInt < 0 ∨ 43 < x.toInt) : AW d 300 40 lv (.int x :: st) h Q ↔ AW d 300 1703 lv st h Q := w_td rfl rfl hx
set_option maxRecDepth 20000 in
theorem s300_232 {d : Nat} {st : List Value} {h : aM} {Q : Option Value → aM → Prop} {v0 v2 v3 v4 v5 v6 : Option Value} {x : Nat} : AW d 300 232 [v0, some (.ref x), v2, v3, v4, v5, v6] st h Q ↔ AW d 300 233 [v0, some (.ref x), v2, v3, v4, v5, v6] (.ref x :: st) h Q := w_st rfl rfl rfl rfl rfl
set_option maxRecDepth 20000 in
theorem s300_233 {d : Nat} {st : List Value} {h : aM} {Q : Option Value → aM → Prop} {v1 v2 v3 v4 v5 v6 : Option Value} {x : Nat} : AW d 300 233 [some (.ref x), v1, v2, v3, v4, v5, v6] st h Q ↔ AW d 300 234 [some (.ref x), v1, v2, v3, v4, v5, v6] (.ref x :: st) h Q := w_st rfl rfl rfl rfl rfl
set_option maxRecDepth 20000 in
theorem s300_234 {d : Nat} {st : List Value} {h : aM} {Q : Option Value → aM → Prop} {v0 v1 v2 v3 v5 v6 : Option Value} {x : Int32} : AW d 300 234 [v0, v1, v2, v3, some (.int x), v5, v6] st h Q ↔ AW d 300 236 [v0, v1, v2, v3, some (.int x), v5, v6] (.int x :: st) h Q := w_st rfl rfl rfl rfl rfl
set_option maxRecDepth 20000 in
theorem s300_236 {d : Nat} {st : List Value} {h : aM} {Q : Option Value → aM → Prop} {lv : aV} : AW d 300 236 lv st h Q ↔ AW d 300 237 lv (.int 1 :: st) h Q := w_st rfl rfl rfl rfl rfl
set_option maxRecDepth 20000 in
theorem s300_237 {d : Nat} {st : List Value} {h : aM} {Q : Option Value → aM → Prop} {lv : aV} {x y : Int32} : AW d 300 237 lv (.int y :: .int x :: st) h Q ↔ AW d 300 238 lv (.int (x + y) :: st) h Q := w_st rfl rfl rfl rfl rfl
set_option maxRecDepth 20000 in
theorem s300_238 {d : Nat} {st : List Value} {h : aM} {Q : Option Value → aM → Prop} {lv : aV} {a : Nat} {i : Int32} : AW d 300 238 lv (.int i :: .ref a :: st) h Q ↔ inA h a 100 i ∧ AW d 300 239 lv (.int (gi h a i.toNatClampNeg) :: st) h Q := w_ite rfl rfl rfl rfl rfl aArr_iff
set_option maxRecDepth 20000 in
theorem s300_239 {d : Nat} {st : List Value} {h : aM} {Q : Option Value → aM → Prop} {v1 v2 v3 v4 v5 v6 : Option Value} {x : Nat} : AW d 300 239 [some (.ref x), v1, v2, v3, v4, v5, v6] st h Q ↔ AW d 300 240 [some (.ref x), v1, v2, v3, v4, v5, v6] (.ref x :: st) h Q := w_st rfl rfl rfl rfl rfl
set_option maxRecDepth 20000 in
theorem s300_240 {d : Nat} {st : List Value} {h : aM} {Q : Option Value → aM → Prop} {v0 v1 v2 v3 v5 v6 : Option Value} {x : Int32} : AW d 300 240 [v0, v1, v2, v3, some (.int x), v5, v6] st h Q ↔ AW d 300 242 [v0, v1, v2, v3, some (.int x), v5, v6] (.int x :: st) h Q := w_st rfl rfl rfl rfl rfl
set_option maxRecDepth 20000 in
theorem s300_242 {d : Nat} {st : List Value} {h : aM} {Q : Option Value → aM → Prop} {lv : aV} : AW d 300 242 lv st h Q ↔ AW d 300 243 lv (.int 2 :: st) h Q := w_st rfl rfl rfl rfl rfl
set_option maxRecDepth 20000 in
theorem s300_243 {d : Nat} {st : List Value} {h : aM} {Q : Option Value → aM → Prop} {lv : aV} {x y : Int32} : AW d 300 243 lv (.int y :: .int x :: st) h Q ↔ AW d 300 244 lv (.int (x + y) :: st) h Q := w_st rfl rfl rfl rfl rfl
set_option maxRecDepth 20000 in
theorem s300_244 {d : Nat} {st : List Value} {h : aM} {Q : Option Value → aM → Prop} {lv : aV} {a : Nat} {i : Int32} : AW d 300 244 lv (.int i :: .ref a :: st) h Q ↔ inA h a 100 i ∧ AW d 300 245 lv (.int (gi h a i.toNatClampNeg) :: st) h Q := w_ite rfl rfl rfl rfl rfl aArr_iff
set_option maxRecDepth 20000 in
theorem s300_245 {d : Nat} {st : List Value} {h : aM} {Q : Option Value → aM → Prop} {v1 v2 v3 v4 v5 v6 : Option Value} {x : Nat} : AW d 300 245 [some (.ref x), v1, v2, v3, v4, v5, v6] st h Q ↔ AW d 300 246 [some (.ref x), v1, v2, v3, v4, v5, v6] (.ref x :: st) h Q := w_st rfl rfl rfl rfl rfl
set_option maxRecDepth 20000 in
theorem s300_246 {d : Nat} {st : List Value} {h : aM} {Q : Option Value → aM → Prop} {v0 v1 v2 v3 v5 v6 : Option Value} {x : Int32} : AW d 300 246 [v0, v1, v2, v3, some (.int x), v5, v6] st h Q ↔ AW d 300 248 [v0, v1, v2, v3, some (.int x), v5, v6] (.int x :: st) h Q := w_st rfl rfl rfl rfl rfl
set_option maxRecDepth 20000 in
theorem s300_248 {d : Nat} {st : List Value} {h : aM} {Q : Option Value → aM → Prop} {lv : aV} : AW d 300 248 lv st h Q ↔ AW d 300 249 lv (.int 3 :: st) h Q := w_st rfl rfl rfl rfl rfl
set_option maxRecDepth 20000 in
theorem s300_249 {d : Nat} {st : List Value} {h : aM} {Q : Option Value → aM → Prop} {lv : aV} {x y : Int32} : AW d 300 249 lv (.int y :: .int x :: st) h Q ↔ AW d 300 250 lv (.int (x + y) :: st) h Q := w_st rfl rfl rfl rfl rfl
set_option maxRecDepth 20000 in
theorem s300_250 {d : Nat} {st : List Value} {h : aM} {Q : Option Value → aM → Prop} {lv : aV} {a : Nat} {i : Int32} : AW d 300 250 lv (.int i :: .ref a :: st) h Q ↔ inA h a 100 i ∧ AW d 300 251 lv (.int (gi h a i.toNatClampNeg) :: st) h Q := w_ite rfl rfl rfl rfl rfl aArr_iff
set_option maxRecDepth 20000 in
theorem s300_251 {d : Nat} {st : List Value} {h : aM} {Q : Option Value → aM → Prop} {v1 v2 v3 v4 v5 v6 : Option Value} {x : Nat} : AW d 300 251 [some (.ref x), v1, v2, v3, v4, v5, v6] st h Q ↔ AW d 300 252 [some (.ref x), v1, v2, v3, v4, v5, v6] (.ref x :: st) h Q := w_st rfl rfl rfl rfl rfl
set_option maxRecDepth 20000 in
theorem s300_252 {d : Nat} {st : List Value} {h : aM} {Q : Option Value → aM → Prop} {v0 v1 v2 v3 v5 v6 : Option Value} {x : Int32} : AW d 300 252 [v0, v1, v2, v3, some (.int x), v5, v6] st h Q ↔ AW d 300 254 [v0, v1, v2, v3, some (.int x), v5, v6] (.int x :: st) h Q := w_st rfl rfl rfl rfl rfl
set_option maxRecDepth 20000 in
theorem s300_254 {d : Nat} {st : List Value} {h : aM} {Q : Option Value → aM → Prop} {lv : aV} : AW d 300 254 lv st h Q ↔ AW d 300 255 lv (.int 4 :: st) h Q := w_st rfl rfl rfl rfl rfl
set_option maxRecDepth 20000 in
theorem s300_255 {d : Nat} {st : List Value} {h : aM} {Q : Option Value → aM → Prop} {lv : aV} {x y : Int32} : AW d 300 255 lv (.int y :: .int x :: st) h Q ↔ AW d 300 256 lv (.int (x + y) :: st) h Q := w_st rfl rfl rfl rfl rfl
set_option maxRecDepth 20000 in
theorem s300_256 {d : Nat} {st : List Value} {h : aM} {Q : Option Value → aM → Prop} {lv : aV} {a : Nat} {i : Int32} : AW d 300 256 lv (.int i :: .ref a :: st) h Q ↔ inA h a 100 i ∧ AW d 300 257 lv (.int (gi h a i.toNatClampNeg) :: st) h Q := w_ite rfl rfl rfl rfl rfl aArr_iff
set_option maxRecDepth 20000 in
theorem s300_257 {d : Nat} {st : List Value} {h : aM} {Q : Option Value → aM → Prop} {v1 v2 v3 v4 v5 v6 : Option Value} {x : Nat} : AW d 300 257 [some (.ref x), v1, v2, v3, v4, v5, v6] st h Q ↔ AW d 300 258 [some (.ref x), v1, v2, v3, v4, v5, v6] (.ref x :: st) h Q := w_st rfl rfl rfl rfl rfl
set_option maxRecDepth 20000 in
theorem s300_258 {d : Nat} {st : List Value} {h : aM} {Q : Option Value → aM → Prop} {v0 v1 v2 v3 v5 v6 : Option Value} {x : Int32} : AW d 300 258 [v0, v1, v2, v3, some (.int x), v5, v6] st h Q ↔ AW d 300 260 [v0, v1, v2, v3, some (.int x), v5, v6] (.int x :: st) h Q := w_st rfl rfl rfl rfl rfl
set_option maxRecDepth 20000 in
theorem s300_260 {d : Nat} {st : List Value} {h : aM} {Q : Option Value → aM → Prop} {lv : aV} : AW d 300 260 lv st h Q ↔ AW d 300 261 lv (.int 5 :: st) h Q := w_st rfl rfl rfl rfl rfl
set_option maxRecDepth 20000 in
theorem s300_261 {d : Nat} {st : List Value} {h : aM} {Q : Option Value → aM → Prop} {lv : aV} {x y : Int32} : AW d 300 261 lv (.int y :: .int x :: st) h Q ↔ AW d 300 262 lv (.int (x + y) :: st) h Q := w_st rfl rfl rfl rfl rfl
set_option maxRecDepth 20000 in
theorem s300_262 {d : Nat} {st : List Value} {h : aM} {Q : Option Value → aM → Prop} {lv : aV} {a : Nat} {i : Int32} : AW d 300 262 lv (.int i :: .ref a :: st) h Q ↔ inA h a 100 i ∧ AW d 300 263 lv (.int (gi h a i.toNatClampNeg) :: st) h Q := w_ite rfl rfl rfl rfl rfl aArr_iff
set_option maxRecDepth 20000 in
theorem s300_263 {d : Nat} {st : List Value} {h : aM} {Q : Option Value → aM → Prop} {lv : aV} {a : Nat} {x0 : Int32} {x1 : Int32} {x2 : Int32} {x3 : Int32} {x4 : Int32} : AW (d + 1) 300 263 lv (.int x4 :: .int x3 :: .int x2 :: .int x1 :: .int x0 :: .ref a :: st) h Q ↔ (sh h a = some (10, 19) ∧ cs st ≤ 8) ∧ AW d 89 0 [some (.ref a), some (.int x0), some (.int x1), some (.int x2), some (.int x3), some (.int x4), none] [] h (fun v h => AW (d + 1) 300 266 lv (v.toList ++ st) h Q) := w_c (k := 300) (pc := 263) (pc' := 266) (as := [.ref a, .int x0, .int x1, .int x2, .int x3, .int x4]) (st := st) (st' := (.int x4 :: .int x3 :: .int x2 :: .int x1 :: .int x0 :: .ref a :: st)) (lv' := [some (.ref a), some (.int x0), some (.int x1), some (.int x2), some (.int x3), some (.int x4), none]) (h := h) (r3 := 10) rfl rfl rfl mi89 rfl rfl (Nat.le_of_ble_eq_true rfl) (rc_v rfl) rfl rfl
set_option maxRecDepth 20000 in
theorem s300_266 {d : Nat} {st : List Value} {h : aM} {Q : Option Value → aM → Prop} {v0 v1 v3 v4 v5 v6 : Option Value} {x : Nat} : AW d 300 266 [v0, v1, some (.ref x), v3, v4, v5, v6] st h Q ↔ AW d 300 267 [v0, v1, some (.ref x), v3, v4, v5, v6] (.ref x :: st) h Q := w_st rfl rfl rfl rfl rfl
set_option maxRecDepth 20000 in
theorem s300_267 {d : Nat} {st : List Value} {h : aM} {Q : Option Value → aM → Prop} {v1 v2 v3 v4 v5 v6 : Option Value} {x : Nat} : AW d 300 267 [some (.ref x), v1, v2, v3, v4, v5, v6] st h Q ↔ AW d 300 268 [some (.ref x), v1, v2, v3, v4, v5, v6] (.ref x :: st) h Q := w_st rfl rfl rfl rfl rfl
set_option maxRecDepth 20000 in
theorem s300_268 {d : Nat} {st : List Value} {h : aM} {Q : Option Value → aM → Prop} {v0 v1 v2 v3 v5 v6 : Option Value} {x : Int32} : AW d 300 268 [v0, v1, v2, v3, some (.int x), v5, v6] st h Q ↔ AW d 300 270 [v0, v1, v2, v3, some (.int x), v5, v6] (.int x :: st) h Q := w_st rfl rfl rfl rfl rfl
set_option maxRecDepth 20000 in
theorem s300_270 {d : Nat} {st : List Value} {h : aM} {Q : Option Value → aM → Prop} {lv : aV} : AW d 300 270 lv st h Q ↔ AW d 300 271 lv (.int 1 :: st) h Q := w_st rfl rfl rfl rfl rfl
set_option maxRecDepth 20000 in
theorem s300_271 {d : Nat} {st : List Value} {h : aM} {Q : Option Value → aM → Prop} {lv : aV} {x y : Int32} : AW d 300 271 lv (.int y :: .int x :: st) h Q ↔ AW d 300 272 lv (.int (x + y) :: st) h Q := w_st rfl rfl rfl rfl rfl
set_option maxRecDepth 20000 in
theorem s300_272 {d : Nat} {st : List Value} {h : aM} {Q : Option Value → aM → Prop} {lv : aV} {a : Nat} {i : Int32} : AW d 300 272 lv (.int i :: .ref a :: st) h Q ↔ inA h a 100 i ∧ AW d 300 273 lv (.int (gi h a i.toNatClampNeg) :: st) h Q := w_ite rfl rfl rfl rfl rfl aArr_iff
set_option maxRecDepth 20000 in
theorem s300_273 {d : Nat} {st : List Value} {h : aM} {Q : Option Value → aM → Prop} {v1 v2 v3 v4 v5 v6 : Option Value} {x : Nat} : AW d 300 273 [some (.ref x), v1, v2, v3, v4, v5, v6] st h Q ↔ AW d 300 274 [some (.ref x), v1, v2, v3, v4, v5, v6] (.ref x :: st) h Q := w_st rfl rfl rfl rfl rfl
set_option maxRecDepth 20000 in
theorem s300_274 {d : Nat} {st : List Value} {h : aM} {Q : Option Value → aM → Prop} {v0 v1 v2 v3 v5 v6 : Option Value} {x : Int32} : AW d 300 274 [v0, v1, v2, v3, some (.int x), v5, v6] st h Q ↔ AW d 300 276 [v0, v1, v2, v3, some (.int x), v5, v6] (.int x :: st) h Q := w_st rfl rfl rfl rfl rfl
set_option maxRecDepth 20000 in
theorem s300_276 {d : Nat} {st : List Value} {h : aM} {Q : Option Value → aM → Prop} {lv : aV} : AW d 300 276 lv st h Q ↔ AW d 300 277 lv (.int 2 :: st) h Q := w_st rfl rfl rfl rfl rfl
set_option maxRecDepth 20000 in
theorem s300_277 {d : Nat} {st : List Value} {h : aM} {Q : Option Value → aM → Prop} {lv : aV} {x y : Int32} : AW d 300 277 lv (.int y :: .int x :: st) h Q ↔ AW d 300 278 lv (.int (x + y) :: st) h Q := w_st rfl rfl rfl rfl rfl
set_option maxRecDepth 20000 in
theorem s300_278 {d : Nat} {st : List Value} {h : aM} {Q : Option Value → aM → Prop} {lv : aV} {a : Nat} {i : Int32} : AW d 300 278 lv (.int i :: .ref a :: st) h Q ↔ inA h a 100 i ∧ AW d 300 279 lv (.int (gi h a i.toNatClampNeg) :: st) h Q := w_ite rfl rfl rfl rfl rfl aArr_iff
set_option maxRecDepth 20000 in
theorem s300_279 {d : Nat} {st : List Value} {h : aM} {Q : Option Value → aM → Prop} {v1 v2 v3 v4 v5 v6 : Option Value} {x : Nat} : AW d 300 279 [some (.ref x), v1, v2, v3, v4, v5, v6] st h Q ↔ AW d 300 280 [some (.ref x), v1, v2, v3, v4, v5, v6] (.ref x :: st) h Q := w_st rfl rfl rfl rfl rfl
set_option maxRecDepth 20000 in
theorem s300_280 {d : Nat} {st : List Value} {h : aM} {Q : Option Value → aM → Prop} {v0 v1 v2 v3 v5 v6 : Option Value} {x : Int32} : AW d 300 280 [v0, v1, v2, v3, some (.int x), v5, v6] st h Q ↔ AW d 300 282 [v0, v1, v2, v3, some (.int x), v5, v6] (.int x :: st) h Q := w_st rfl rfl rfl rfl rfl
set_option maxRecDepth 20000 in
theorem s300_282 {d : Nat} {st : List Value} {h : aM} {Q : Option Value → aM → Prop} {lv : aV} : AW d 300 282 lv st h Q ↔ AW d 300 283 lv (.int 3 :: st) h Q := w_st rfl rfl rfl rfl rfl
set_option maxRecDepth 20000 in
theorem s300_283 {d : Nat} {st : List Value} {h : aM} {Q : Option Value → aM → Prop} {lv : aV} {x y : Int32} : AW d 300 283 lv (.int y :: .int x :: st) h Q ↔ AW d 300 284 lv (.int (x + y) :: st) h Q := w_st rfl rfl rfl rfl rfl
set_option maxRecDepth 20000 in
theorem s300_284 {d : Nat} {st : List Value} {h : aM} {Q : Option Value → aM → Prop} {lv : aV} {a : Nat} {i : Int32} : AW d 300 284 lv (.int i :: .ref a :: st) h Q ↔ inA h a 100 i ∧ AW d 300 285 lv (.int (gi h a i.toNatClampNeg) :: st) h Q := w_ite rfl rfl rfl rfl rfl aArr_iff
set_option maxRecDepth 20000 in
theorem s300_285 {d : Nat} {st : List Value} {h : aM} {Q : Option Value → aM → Prop} {v1 v2 v3 v4 v5 v6 : Option Value} {x : Nat} : AW d 300 285 [some (.ref x), v1, v2, v3, v4, v5, v6] st h Q ↔ AW d 300 286 [some (.ref x), v1, v2, v3, v4, v5, v6] (.ref x :: st) h Q := w_st rfl rfl rfl rfl rfl
set_option maxRecDepth 20000 in
theorem s300_286 {d : Nat} {st : List Value} {h : aM} {Q : Option Value → aM → Prop} {v0 v1 v2 v3 v5 v6 : Option Value} {x : Int32} : AW d 300 286 [v0, v1, v2, v3, some (.int x), v5, v6] st h Q ↔ AW d 300 288 [v0, v1, v2, v3, some (.int x), v5, v6] (.int x :: st) h Q := w_st rfl rfl rfl rfl rfl
set_option maxRecDepth 20000 in
theorem s300_288 {d : Nat} {st : List Value} {h : aM} {Q : Option Value → aM → Prop} {lv : aV} : AW d 300 288 lv st h Q ↔ AW d 300 289 lv (.int 4 :: st) h Q := w_st rfl rfl rfl rfl rfl
set_option maxRecDepth 20000 in
theorem s300_289 {d : Nat} {st : List Value} {h : aM} {Q : Option Value → aM → Prop} {lv : aV} {x y : Int32} : AW d 300 289 lv (.int y :: .int x :: st) h Q ↔ AW d 300 290 lv (.int (x + y) :: st) h Q := w_st rfl rfl rfl rfl rfl
set_option maxRecDepth 20000 in
theorem s300_290 {d : Nat} {st : List Value} {h : aM} {Q : Option Value → aM → Prop} {lv : aV} {a : Nat} {i : Int32} : AW d 300 290 lv (.int i :: .ref a :: st) h Q ↔ inA h a 100 i ∧ AW d 300 291 lv (.int (gi h a i.toNatClampNeg) :: st) h Q := w_ite rfl rfl rfl rfl rfl aArr_iff
set_option maxRecDepth 20000 in
theorem s300_291 {d : Nat} {st : List Value} {h : aM} {Q : Option Value → aM → Prop} {v1 v2 v3 v4 v5 v6 : Option Value} {x : Nat} : AW d 300 291 [some (.ref x), v1, v2, v3, v4, v5, v6] st h Q ↔ AW d 300 292 [some (.ref x), v1, v2, v3, v4, v5, v6] (.ref x :: st) h Q := w_st rfl rfl rfl rfl rfl
set_option maxRecDepth 20000 in
theorem s300_292 {d : Nat} {st : List Value} {h : aM} {Q : Option Value → aM → Prop} {v0 v1 v2 v3 v5 v6 : Option Value} {x : Int32} : AW d 300 292 [v0, v1, v2, v3, some (.int x), v5, v6] st h Q ↔ AW d 300 294 [v0, v1, v2, v3, some (.int x), v5, v6] (.int x :: st) h Q := w_st rfl rfl rfl rfl rfl
set_option maxRecDepth 20000 in
theorem s300_294 {d : Nat} {st : List Value} {h : aM} {Q : Option Value → aM → Prop} {lv : aV} : AW d 300 294 lv st h Q ↔ AW d 300 295 lv (.int 5 :: st) h Q := w_st rfl rfl rfl rfl rfl
set_option maxRecDepth 20000 in
theorem s300_295 {d : Nat} {st : List Value} {h : aM} {Q : Option Value → aM → Prop} {lv : aV} {x y : Int32} : AW d 300 295 lv (.int y :: .int x :: st) h Q ↔ AW d 300 296 lv (.int (x + y) :: st) h Q := w_st rfl rfl rfl rfl rfl
set_option maxRecDepth 20000 in
theorem s300_296 {d : Nat} {st : List Value} {h : aM} {Q : Option Value → aM → Prop} {lv : aV} {a : Nat} {i : Int32} : AW d 300 296 lv (.int i :: .ref a :: st) h Q ↔ inA h a 100 i ∧ AW d 300 297 lv (.int (gi h a i.toNatClampNeg) :: st) h Q := w_ite rfl rfl rfl rfl rfl aArr_iff
set_option maxRecDepth 20000 in
theorem s300_297 {d : Nat} {st : List Value} {h : aM} {Q : Option Value → aM → Prop} {lv : aV} {a : Nat} {x0 : Int32} {x1 : Int32} {x2 : Int32} {x3 : Int32} {x4 : Int32} : AW (d + 1) 300 297 lv (.int x4 :: .int x3 :: .int x2 :: .int x1 :: .int x0 :: .ref a :: st) h Q ↔ (sh h a = some (11, 50) ∧ cs st ≤ 8) ∧ AW d 166 0 [some (.ref a), some (.int x0), some (.int x1), some (.int x2), some (.int x3), some (.int x4), none, none, none] [] h (fun v h => AW (d + 1) 300 300 lv (v.toList ++ st) h Q) := w_c (k := 300) (pc := 297) (pc' := 300) (as := [.ref a, .int x0, .int x1, .int x2, .int x3, .int x4]) (st := st) (st' := (.int x4 :: .int x3 :: .int x2 :: .int x1 :: .int x0 :: .ref a :: st)) (lv' := [some (.ref a), some (.int x0), some (.int x1), some (.int x2), some (.int x3), some (.int x4), none, none, none]) (h := h) (r3 := 11) rfl rfl rfl mi166 rfl rfl (Nat.le_of_ble_eq_true rfl) (rc_v rfl) rfl rfl
set_option maxRecDepth 20000 in
theorem s300_300 {d : Nat} {st : List Value} {h : aM} {Q : Option Value → aM → Prop} {lv : aV} {x y : Int32} : AW d 300 300 lv (.int y :: .int x :: st) h Q ↔ if x = y then AW d 300 1703 lv st h Q else AW d 300 303 lv st h Q := w_if rfl rfl rfl rfl rfl c2_eq
set_option maxRecDepth 20000 in
theorem s300_303 {d : Nat} {st : List Value} {h : aM} {Q : Option Value → aM → Prop} {lv : aV} : AW d 300 303 lv st h Q ↔ AW d 300 304 lv (.int 0 :: st) h Q := w_st rfl rfl rfl rfl rfl
set_option maxRecDepth 20000 in
theorem s300_304 {d : Nat} {h : aM} {Q : Option Value → aM → Prop} {lv : aV} {x : Int32} : AW d 300 304 lv [.int x] h Q ↔ narrow .boolean (.int x) = .int x ∧ Q (some (.int x)) h := w_rz rfl rfl
set_option maxRecDepth 20000 in
theorem s300_305 {d : Nat} {st : List Value} {h : aM} {Q : Option Value → aM → Prop} {v0 v2 v3 v4 v5 v6 : Option Value} {x : Nat} : AW d 300 305 [v0, some (.ref x), v2, v3, v4, v5, v6] st h Q ↔ AW d 300 306 [v0, some (.ref x), v2, v3, v4, v5, v6] (.ref x :: st) h Q := w_st rfl rfl rfl rfl rfl
set_option maxRecDepth 20000 in
theorem s300_306 {d : Nat} {st : List Value} {h : aM} {Q : Option Value → aM → Prop} {v1 v2 v3 v4 v5 v6 : Option Value} {x : Nat} : AW d 300 306 [some (.ref x), v1, v2, v3, v4, v5, v6] st h Q ↔ AW d 300 307 [some (.ref x), v1, v2, v3, v4, v5, v6] (.ref x :: st) h Q := w_st rfl rfl rfl rfl rfl
set_option maxRecDepth 20000 in
theorem s300_307 {d : Nat} {st : List Value} {h : aM} {Q : Option Value → aM → Prop} {v0 v1 v2 v3 v5 v6 : Option Value} {x : Int32} : AW d 300 307 [v0, v1, v2, v3, some (.int x), v5, v6] st h Q ↔ AW d 300 309 [v0, v1, v2, v3, some (.int x), v5, v6] (.int x :: st) h Q := w_st rfl rfl rfl rfl rfl
set_option maxRecDepth 20000 in
theorem s300_309 {d : Nat} {st : List Value} {h : aM} {Q : Option Value → aM → Prop} {lv : aV} : AW d 300 309 lv st h Q ↔ AW d 300 310 lv (.int 1 :: st) h Q := w_st rfl rfl rfl rfl rfl
set_option maxRecDepth 20000 in
theorem s300_310 {d : Nat} {st : List Value} {h : aM} {Q : Option Value → aM → Prop} {lv : aV} {x y : Int32} : AW d 300 310 lv (.int y :: .int x :: st) h Q ↔ AW d 300 311 lv (.int (x + y) :: st) h Q := w_st rfl rfl rfl rfl rfl
set_option maxRecDepth 20000 in
theorem s300_311 {d : Nat} {st : List Value} {h : aM} {Q : Option Value → aM → Prop} {lv : aV} {a : Nat} {i : Int32} : AW d 300 311 lv (.int i :: .ref a :: st) h Q ↔ inA h a 100 i ∧ AW d 300 312 lv (.int (gi h a i.toNatClampNeg) :: st) h Q := w_ite rfl rfl rfl rfl rfl aArr_iff
set_option maxRecDepth 20000 in
theorem s300_312 {d : Nat} {st : List Value} {h : aM} {Q : Option Value → aM → Prop} {lv : aV} {a : Nat} {x0 : Int32} : AW (d + 1) 300 312 lv (.int x0 :: .ref a :: st) h Q ↔ (sh h a = some (10, 19) ∧ cs st ≤ 8) ∧ AW d 90 0 [some (.ref a), some (.int x0)] [] h (fun v h => AW (d + 1) 300 315 lv (v.toList ++ st) h Q) := w_c (k := 300) (pc := 312) (pc' := 315) (as := [.ref a, .int x0]) (st := st) (st' := (.int x0 :: .ref a :: st)) (lv' := [some (.ref a), some (.int x0)]) (h := h) (r3 := 10) rfl rfl rfl mi90 rfl rfl (Nat.le_of_ble_eq_true rfl) (rc_v rfl) rfl rfl
set_option maxRecDepth 20000 in
theorem s300_315 {d : Nat} {st : List Value} {h : aM} {Q : Option Value → aM → Prop} {v0 v1 v3 v4 v5 v6 : Option Value} {x : Nat} : AW d 300 315 [v0, v1, some (.ref x), v3, v4, v5, v6] st h Q ↔ AW d 300 316 [v0, v1, some (.ref x), v3, v4, v5, v6] (.ref x :: st) h Q := w_st rfl rfl rfl rfl rfl
set_option maxRecDepth 20000 in
theorem s300_316 {d : Nat} {st : List Value} {h : aM} {Q : Option Value → aM → Prop} {v1 v2 v3 v4 v5 v6 : Option Value} {x : Nat} : AW d 300 316 [some (.ref x), v1, v2, v3, v4, v5, v6] st h Q ↔ AW d 300 317 [some (.ref x), v1, v2, v3, v4, v5, v6] (.ref x :: st) h Q := w_st rfl rfl rfl rfl rfl
set_option maxRecDepth 20000 in
theorem s300_317 {d : Nat} {st : List Value} {h : aM} {Q : Option Value → aM → Prop} {v0 v1 v2 v3 v5 v6 : Option Value} {x : Int32} : AW d 300 317 [v0, v1, v2, v3, some (.int x), v5, v6] st h Q ↔ AW d 300 319 [v0, v1, v2, v3, some (.int x), v5, v6] (.int x :: st) h Q := w_st rfl rfl rfl rfl rfl
set_option maxRecDepth 20000 in
theorem s300_319 {d : Nat} {st : List Value} {h : aM} {Q : Option Value → aM → Prop} {lv : aV} : AW d 300 319 lv st h Q ↔ AW d 300 320 lv (.int 1 :: st) h Q := w_st rfl rfl rfl rfl rfl
set_option maxRecDepth 20000 in
theorem s300_320 {d : Nat} {st : List Value} {h : aM} {Q : Option Value → aM → Prop} {lv : aV} {x y : Int32} : AW d 300 320 lv (.int y :: .int x :: st) h Q ↔ AW d 300 321 lv (.int (x + y) :: st) h Q := w_st rfl rfl rfl rfl rfl
set_option maxRecDepth 20000 in
theorem s300_321 {d : Nat} {st : List Value} {h : aM} {Q : Option Value → aM → Prop} {lv : aV} {a : Nat} {i : Int32} : AW d 300 321 lv (.int i :: .ref a :: st) h Q ↔ inA h a 100 i ∧ AW d 300 322 lv (.int (gi h a i.toNatClampNeg) :: st) h Q := w_ite rfl rfl rfl rfl rfl aArr_iff
set_option maxRecDepth 20000 in
theorem s300_322 {d : Nat} {st : List Value} {h : aM} {Q : Option Value → aM → Prop} {lv : aV} {a : Nat} {x0 : Int32} : AW (d + 1) 300 322 lv (.int x0 :: .ref a :: st) h Q ↔ (sh h a = some (11, 50) ∧ cs st ≤ 8) ∧ AW d 167 0 [some (.ref a), some (.int x0)] [] h (fun v h => AW (d + 1) 300 325 lv (v.toList ++ st) h Q) := w_c (k := 300) (pc := 322) (pc' := 325) (as := [.ref a, .int x0]) (st := st) (st' := (.int x0 :: .ref a :: st)) (lv' := [some (.ref a), some (.int x0)]) (h := h) (r3 := 11) rfl rfl rfl mi167 rfl rfl (Nat.le_of_ble_eq_true rfl) (rc_v rfl) rfl rfl
set_option maxRecDepth 20000 in
theorem s300_325 {d : Nat} {st : List Value} {h : aM} {Q : Option Value → aM → Prop} {lv : aV} {x y : Int32} : AW d 300 325 lv (.int y :: .int x :: st) h Q ↔ if x = y then AW d 300 1703 lv st h Q else AW d 300 328 lv st h Q := w_if rfl rfl rfl rfl rfl c2_eq
set_option maxRecDepth 20000 in
theorem s300_328 {d : Nat} {st : List Value} {h : aM} {Q : Option Value → aM → Prop} {lv : aV} : AW d 300 328 lv st h Q ↔ AW d 300 329 lv (.int 0 :: st) h Q := w_st rfl rfl rfl rfl rfl
set_option maxRecDepth 20000 in
theorem s300_329 {d : Nat} {h : aM} {Q : Option Value → aM → Prop} {lv : aV} {x : Int32} : AW d 300 329 lv [.int x] h Q ↔ narrow .boolean (.int x) = .int x ∧ Q (some (.int x)) h := w_rz rfl rfl
set_option maxRecDepth 20000 in
theorem s300_330 {d : Nat} {st : List Value} {h : aM} {Q : Option Value → aM → Prop} {v0 v2 v3 v4 v5 v6 : Option Value} {x : Nat} : AW d 300 330 [v0, some (.ref x), v2, v3, v4, v5, v6] st h Q ↔ AW d 300 331 [v0, some (.ref x), v2, v3, v4, v5, v6] (.ref x :: st) h Q := w_st rfl rfl rfl rfl rfl
set_option maxRecDepth 20000 in
theorem s300_331 {d : Nat} {st : List Value} {h : aM} {Q : Option Value → aM → Prop} {v1 v2 v3 v4 v5 v6 : Option Value} {x : Nat} : AW d 300 331 [some (.ref x), v1, v2, v3, v4, v5, v6] st h Q ↔ AW d 300 332 [some (.ref x), v1, v2, v3, v4, v5, v6] (.ref x :: st) h Q := w_st rfl rfl rfl rfl rfl
set_option maxRecDepth 20000 in
theorem s300_332 {d : Nat} {st : List Value} {h : aM} {Q : Option Value → aM → Prop} {v0 v1 v2 v3 v5 v6 : Option Value} {x : Int32} : AW d 300 332 [v0, v1, v2, v3, some (.int x), v5, v6] st h Q ↔ AW d 300 334 [v0, v1, v2, v3, some (.int x), v5, v6] (.int x :: st) h Q := w_st rfl rfl rfl rfl rfl
set_option maxRecDepth 20000 in
theorem s300_334 {d : Nat} {st : List Value} {h : aM} {Q : Option Value → aM → Prop} {lv : aV} : AW d 300 334 lv st h Q ↔ AW d 300 335 lv (.int 1 :: st) h Q := w_st rfl rfl rfl rfl rfl
set_option maxRecDepth 20000 in
theorem s300_335 {d : Nat} {st : List Value} {h : aM} {Q : Option Value → aM → Prop} {lv : aV} {x y : Int32} : AW d 300 335 lv (.int y :: .int x :: st) h Q ↔ AW d 300 336 lv (.int (x + y) :: st) h Q := w_st rfl rfl rfl rfl rfl
set_option maxRecDepth 20000 in
theorem s300_336 {d : Nat} {st : List Value} {h : aM} {Q : Option Value → aM → Prop} {lv : aV} {a : Nat} {i : Int32} : AW d 300 336 lv (.int i :: .ref a :: st) h Q ↔ inA h a 100 i ∧ AW d 300 337 lv (.int (gi h a i.toNatClampNeg) :: st) h Q := w_ite rfl rfl rfl rfl rfl aArr_iff
set_option maxRecDepth 20000 in
theorem s300_337 {d : Nat} {st : List Value} {h : aM} {Q : Option Value → aM → Prop} {lv : aV} {a : Nat} {x0 : Int32} : AW (d + 1) 300 337 lv (.int x0 :: .ref a :: st) h Q ↔ (sh h a = some (10, 19) ∧ cs st ≤ 8) ∧ AW d 91 0 [some (.ref a), some (.int x0)] [] h (fun v h => AW (d + 1) 300 340 lv (v.toList ++ st) h Q) := w_c (k := 300) (pc := 337) (pc' := 340) (as := [.ref a, .int x0]) (st := st) (st' := (.int x0 :: .ref a :: st)) (lv' := [some (.ref a), some (.int x0)]) (h := h) (r3 := 10) rfl rfl rfl mi91 rfl rfl (Nat.le_of_ble_eq_true rfl) (rc_v rfl) rfl rfl
set_option maxRecDepth 20000 in
theorem s300_340 {d : Nat} {st : List Value} {h : aM} {Q : Option Value → aM → Prop} {v0 v1 v3 v4 v5 v6 : Option Value} {x : Nat} : AW d 300 340 [v0, v1, some (.ref x), v3, v4, v5, v6] st h Q ↔ AW d 300 341 [v0, v1, some (.ref x), v3, v4, v5, v6] (.ref x :: st) h Q := w_st rfl rfl rfl rfl rfl
set_option maxRecDepth 20000 in
theorem s300_341 {d : Nat} {st : List Value} {h : aM} {Q : Option Value → aM → Prop} {v1 v2 v3 v4 v5 v6 : Option Value} {x : Nat} : AW d 300 341 [some (.ref x), v1, v2, v3, v4, v5, v6] st h Q ↔ AW d 300 342 [some (.ref x), v1, v2, v3, v4, v5, v6] (.ref x :: st) h Q := w_st rfl rfl rfl rfl rfl
set_option maxRecDepth 20000 in
theorem s300_342 {d : Nat} {st : List Value} {h : aM} {Q : Option Value → aM → Prop} {v0 v1 v2 v3 v5 v6 : Option Value} {x : Int32} : AW d 300 342 [v0, v1, v2, v3, some (.int x), v5, v6] st h Q ↔ AW d 300 344 [v0, v1, v2, v3, some (.int x), v5, v6] (.int x :: st) h Q := w_st rfl rfl rfl rfl rfl
set_option maxRecDepth 20000 in
theorem s300_344 {d : Nat} {st : List Value} {h : aM} {Q : Option Value → aM → Prop} {lv : aV} : AW d 300 344 lv st h Q ↔ AW d 300 345 lv (.int 1 :: st) h Q := w_st rfl rfl rfl rfl rfl
set_option maxRecDepth 20000 in
theorem s300_345 {d : Nat} {st : List Value} {h : aM} {Q : Option Value → aM → Prop} {lv : aV} {x y : Int32} : AW d 300 345 lv (.int y :: .int x :: st) h Q ↔ AW d 300 346 lv (.int (x + y) :: st) h Q := w_st rfl rfl rfl rfl rfl
set_option maxRecDepth 20000 in
theorem s300_346 {d : Nat} {st : List Value} {h : aM} {Q : Option Value → aM → Prop} {lv : aV} {a : Nat} {i : Int32} : AW d 300 346 lv (.int i :: .ref a :: st) h Q ↔ inA h a 100 i ∧ AW d 300 347 lv (.int (gi h a i.toNatClampNeg) :: st) h Q := w_ite rfl rfl rfl rfl rfl aArr_iff
set_option maxRecDepth 20000 in
theorem s300_347 {d : Nat} {st : List Value} {h : aM} {Q : Option Value → aM → Prop} {lv : aV} {a : Nat} {x0 : Int32} : AW (d + 1) 300 347 lv (.int x0 :: .ref a :: st) h Q ↔ (sh h a = some (11, 50) ∧ cs st ≤ 8) ∧ AW d 202 0 [some (.ref a), some (.int x0)] [] h (fun v h => AW (d + 1) 300 350 lv (v.toList ++ st) h Q) := w_c (k := 300) (pc := 347) (pc' := 350) (as := [.ref a, .int x0]) (st := st) (st' := (.int x0 :: .ref a :: st)) (lv' := [some (.ref a), some (.int x0)]) (h := h) (r3 := 11) rfl rfl rfl mi202 rfl rfl (Nat.le_of_ble_eq_true rfl) (rc_v rfl) rfl rfl
set_option maxRecDepth 20000 in
theorem s300_350 {d : Nat} {st : List Value} {h : aM} {Q : Option Value → aM → Prop} {lv : aV} {x y : Int32} : AW d 300 350 lv (.int y :: .int x :: st) h Q ↔ if x = y then AW d 300 1703 lv st h Q else AW d 300 353 lv st h Q := w_if rfl rfl rfl rfl rfl c2_eq
set_option maxRecDepth 20000 in
theorem s300_353 {d : Nat} {st : List Value} {h : aM} {Q : Option Value → aM → Prop} {lv : aV} : AW d 300 353 lv st h Q ↔ AW d 300 354 lv (.int 0 :: st) h Q := w_st rfl rfl rfl rfl rfl
set_option maxRecDepth 20000 in
theorem s300_354 {d : Nat} {h : aM} {Q : Option Value → aM → Prop} {lv : aV} {x : Int32} : AW d 300 354 lv [.int x] h Q ↔ narrow .boolean (.int x) = .int x ∧ Q (some (.int x)) h := w_rz rfl rfl
set_option maxRecDepth 20000 in
theorem s300_355 {d : Nat} {st : List Value} {h : aM} {Q : Option Value → aM → Prop} {v0 v2 v3 v4 v5 v6 : Option Value} {x : Nat} : AW d 300 355 [v0, some (.ref x), v2, v3, v4, v5, v6] st h Q ↔ AW d 300 356 [v0, some (.ref x), v2, v3, v4, v5, v6] (.ref x :: st) h Q := w_st rfl rfl rfl rfl rfl
set_option maxRecDepth 20000 in
theorem s300_356 {d : Nat} {st : List Value} {h : aM} {Q : Option Value → aM → Prop} {v1 v2 v3 v4 v5 v6 : Option Value} {x : Nat} : AW d 300 356 [some (.ref x), v1, v2, v3, v4, v5, v6] st h Q ↔ AW d 300 357 [some (.ref x), v1, v2, v3, v4, v5, v6] (.ref x :: st) h Q := w_st rfl rfl rfl rfl rfl
set_option maxRecDepth 20000 in
theorem s300_357 {d : Nat} {st : List Value} {h : aM} {Q : Option Value → aM → Prop} {v0 v1 v2 v3 v5 v6 : Option Value} {x : Int32} : AW d 300 357 [v0, v1, v2, v3, some (.int x), v5, v6] st h Q ↔ AW d 300 359 [v0, v1, v2, v3, some (.int x), v5, v6] (.int x :: st) h Q := w_st rfl rfl rfl rfl rfl
set_option maxRecDepth 20000 in
theorem s300_359 {d : Nat} {st : List Value} {h : aM} {Q : Option Value → aM → Prop} {lv : aV} : AW d 300 359 lv st h Q ↔ AW d 300 360 lv (.int 1 :: st) h Q := w_st rfl rfl rfl rfl rfl
set_option maxRecDepth 20000 in
theorem s300_360 {d : Nat} {st : List Value} {h : aM} {Q : Option Value → aM → Prop} {lv : aV} {x y : Int32} : AW d 300 360 lv (.int y :: .int x :: st) h Q ↔ AW d 300 361 lv (.int (x + y) :: st) h Q := w_st rfl rfl rfl rfl rfl
set_option maxRecDepth 20000 in
theorem s300_361 {d : Nat} {st : List Value} {h : aM} {Q : Option Value → aM → Prop} {lv : aV} {a : Nat} {i : Int32} : AW d 300 361 lv (.int i :: .ref a :: st) h Q ↔ inA h a 100 i ∧ AW d 300 362 lv (.int (gi h a i.toNatClampNeg) :: st) h Q := w_ite rfl rfl rfl rfl rfl aArr_iff
set_option maxRecDepth 20000 in
theorem s300_362 {d : Nat} {st : List Value} {h : aM} {Q : Option Value → aM → Prop} {lv : aV} {a : Nat} {x0 : Int32} : AW (d + 1) 300 362 lv (.int x0 :: .ref a :: st) h Q ↔ (sh h a = some (10, 19) ∧ cs st ≤ 8) ∧ AW d 92 0 [some (.ref a), some (.int x0)] [] h (fun v h => AW (d + 1) 300 365 lv (v.toList ++ st) h Q) := w_c (k := 300) (pc := 362) (pc' := 365) (as := [.ref a, .int x0]) (st := st) (st' := (.int x0 :: .ref a :: st)) (lv' := [some (.ref a), some (.int x0)]) (h := h) (r3 := 10) rfl rfl rfl mi92 rfl rfl (Nat.le_of_ble_eq_true rfl) (rc_v rfl) rfl rfl
set_option maxRecDepth 20000 in
theorem s300_365 {d : Nat} {st : List Value} {h : aM} {Q : Option Value → aM → Prop} {v0 v1 v3 v4 v5 v6 : Option Value} {x : Nat} : AW d 300 365 [v0, v1, some (.ref x), v3, v4, v5, v6] st h Q ↔ AW d 300 366 [v0, v1, some (.ref x), v3, v4, v5, v6] (.ref x :: st) h Q := w_st rfl rfl rfl rfl rfl
set_option maxRecDepth 20000 in
theorem s300_366 {d : Nat} {st : List Value} {h : aM} {Q : Option Value → aM → Prop} {v1 v2 v3 v4 v5 v6 : Option Value} {x : Nat} : AW d 300 366 [some (.ref x), v1, v2, v3, v4, v5, v6] st h Q ↔ AW d 300 367 [some (.ref x), v1, v2, v3, v4, v5, v6] (.ref x :: st) h Q := w_st rfl rfl rfl rfl rfl
set_option maxRecDepth 20000 in
theorem s300_367 {d : Nat} {st : List Value} {h : aM} {Q : Option Value → aM → Prop} {v0 v1 v2 v3 v5 v6 : Option Value} {x : Int32} : AW d 300 367 [v0, v1, v2, v3, some (.int x), v5, v6] st h Q ↔ AW d 300 369 [v0, v1, v2, v3, some (.int x), v5, v6] (.int x :: st) h Q := w_st rfl rfl rfl rfl rfl
set_option maxRecDepth 20000 in
theorem s300_369 {d : Nat} {st : List Value} {h : aM} {Q : Option Value → aM → Prop} {lv : aV} : AW d 300 369 lv st h Q ↔ AW d 300 370 lv (.int 1 :: st) h Q := w_st rfl rfl rfl rfl rfl
set_option maxRecDepth 20000 in
theorem s300_370 {d : Nat} {st : List Value} {h : aM} {Q : Option Value → aM → Prop} {lv : aV} {x y : Int32} : AW d 300 370 lv (.int y :: .int x :: st) h Q ↔ AW d 300 371 lv (.int (x + y) :: st) h Q := w_st rfl rfl rfl rfl rfl
set_option maxRecDepth 20000 in
theorem s300_371 {d : Nat} {st : List Value} {h : aM} {Q : Option Value → aM → Prop} {lv : aV} {a : Nat} {i : Int32} : AW d 300 371 lv (.int i :: .ref a :: st) h Q ↔ inA h a 100 i ∧ AW d 300 372 lv (.int (gi h a i.toNatClampNeg) :: st) h Q := w_ite rfl rfl rfl rfl rfl aArr_iff
set_option maxRecDepth 20000 in
theorem s300_372 {d : Nat} {st : List Value} {h : aM} {Q : Option Value → aM → Prop} {lv : aV} {a : Nat} {x0 : Int32} : AW (d + 1) 300 372 lv (.int x0 :: .ref a :: st) h Q ↔ (sh h a = some (11, 50) ∧ cs st ≤ 8) ∧ AW d 205 0 [some (.ref a), some (.int x0)] [] h (fun v h => AW (d + 1) 300 375 lv (v.toList ++ st) h Q) := w_c (k := 300) (pc := 372) (pc' := 375) (as := [.ref a, .int x0]) (st := st) (st' := (.int x0 :: .ref a :: st)) (lv' := [some (.ref a), some (.int x0)]) (h := h) (r3 := 11) rfl rfl rfl mi205 rfl rfl (Nat.le_of_ble_eq_true rfl) (rc_v rfl) rfl rfl
set_option maxRecDepth 20000 in
theorem s300_375 {d : Nat} {st : List Value} {h : aM} {Q : Option Value → aM → Prop} {lv : aV} {x y : Int32} : AW d 300 375 lv (.int y :: .int x :: st) h Q ↔ if x = y then AW d 300 1703 lv st h Q else AW d 300 378 lv st h Q := w_if rfl rfl rfl rfl rfl c2_eq
set_option maxRecDepth 20000 in
theorem s300_378 {d : Nat} {st : List Value} {h : aM} {Q : Option Value → aM → Prop} {lv : aV} : AW d 300 378 lv st h Q ↔ AW d 300 379 lv (.int 0 :: st) h Q := w_st rfl rfl rfl rfl rfl
set_option maxRecDepth 20000 in
theorem s300_379 {d : Nat} {h : aM} {Q : Option Value → aM → Prop} {lv : aV} {x : Int32} : AW d 300 379 lv [.int x] h Q ↔ narrow .boolean (.int x) = .int x ∧ Q (some (.int x)) h := w_rz rfl rfl
set_option maxRecDepth 20000 in
theorem s300_380 {d : Nat} {st : List Value} {h : aM} {Q : Option Value → aM → Prop} {v0 v2 v3 v4 v5 v6 : Option Value} {x : Nat} : AW d 300 380 [v0, some (.ref x), v2, v3, v4, v5, v6] st h Q ↔ AW d 300 381 [v0, some (.ref x), v2, v3, v4, v5, v6] (.ref x :: st) h Q := w_st rfl rfl rfl rfl rfl
set_option maxRecDepth 20000 in
theorem s300_381 {d : Nat} {st : List Value} {h : aM} {Q : Option Value → aM → Prop} {v1 v2 v3 v4 v5 v6 : Option Value} {x : Nat} : AW d 300 381 [some (.ref x), v1, v2, v3, v4, v5, v6] st h Q ↔ AW d 300 382 [some (.ref x), v1, v2, v3, v4, v5, v6] (.ref x :: st) h Q := w_st rfl rfl rfl rfl rfl
set_option maxRecDepth 20000 in
theorem s300_382 {d : Nat} {st : List Value} {h : aM} {Q : Option Value → aM → Prop} {v0 v1 v2 v3 v5 v6 : Option Value} {x : Int32} : AW d 300 382 [v0, v1, v2, v3, some (.int x), v5, v6] st h Q ↔ AW d 300 384 [v0, v1, v2, v3, some (.int x), v5, v6] (.int x :: st) h Q := w_st rfl rfl rfl rfl rfl
set_option maxRecDepth 20000 in
theorem s300_384 {d : Nat} {st : List Value} {h : aM} {Q : Option Value → aM → Prop} {lv : aV} : AW d 300 384 lv st h Q ↔ AW d 300 385 lv (.int 1 :: st) h Q := w_st rfl rfl rfl rfl rfl
set_option maxRecDepth 20000 in
theorem s300_385 {d : Nat} {st : List Value} {h : aM} {Q : Option Value → aM → Prop} {lv : aV} {x y : Int32} : AW d 300 385 lv (.int y :: .int x :: st) h Q ↔ AW d 300 386 lv (.int (x + y) :: st) h Q := w_st rfl rfl rfl rfl rfl
set_option maxRecDepth 20000 in
theorem s300_386 {d : Nat} {st : List Value} {h : aM} {Q : Option Value → aM → Prop} {lv : aV} {a : Nat} {i : Int32} : AW d 300 386 lv (.int i :: .ref a :: st) h Q ↔ inA h a 100 i ∧ AW d 300 387 lv (.int (gi h a i.toNatClampNeg) :: st) h Q := w_ite rfl rfl rfl rfl rfl aArr_iff
set_option maxRecDepth 20000 in
theorem s300_387 {d : Nat} {st : List Value} {h : aM} {Q : Option Value → aM → Prop} {lv : aV} {a : Nat} {x0 : Int32} : AW (d + 1) 300 387 lv (.int x0 :: .ref a :: st) h Q ↔ (sh h a = some (10, 19) ∧ cs st ≤ 8) ∧ AW d 95 0 [some (.ref a), some (.int x0)] [] h (fun v h => AW (d + 1) 300 390 lv (v.toList ++ st) h Q) := w_c (k := 300) (pc := 387) (pc' := 390) (as := [.ref a, .int x0]) (st := st) (st' := (.int x0 :: .ref a :: st)) (lv' := [some (.ref a), some (.int x0)]) (h := h) (r3 := 10) rfl rfl rfl mi95 rfl rfl (Nat.le_of_ble_eq_true rfl) (rc_v rfl) rfl rfl
set_option maxRecDepth 20000 in
theorem s300_390 {d : Nat} {st : List Value} {h : aM} {Q : Option Value → aM → Prop} {v0 v1 v3 v4 v5 v6 : Option Value} {x : Nat} : AW d 300 390 [v0, v1, some (.ref x), v3, v4, v5, v6] st h Q ↔ AW d 300 391 [v0, v1, some (.ref x), v3, v4, v5, v6] (.ref x :: st) h Q := w_st rfl rfl rfl rfl rfl
set_option maxRecDepth 20000 in
theorem s300_391 {d : Nat} {st : List Value} {h : aM} {Q : Option Value → aM → Prop} {v1 v2 v3 v4 v5 v6 : Option Value} {x : Nat} : AW d 300 391 [some (.ref x), v1, v2, v3, v4, v5, v6] st h Q ↔ AW d 300 392 [some (.ref x), v1, v2, v3, v4, v5, v6] (.ref x :: st) h Q := w_st rfl rfl rfl rfl rfl
set_option maxRecDepth 20000 in
theorem s300_392 {d : Nat} {st : List Value} {h : aM} {Q : Option Value → aM → Prop} {v0 v1 v2 v3 v5 v6 : Option Value} {x : Int32} : AW d 300 392 [v0, v1, v2, v3, some (.int x), v5, v6] st h Q ↔ AW d 300 394 [v0, v1, v2, v3, some (.int x), v5, v6] (.int x :: st) h Q := w_st rfl rfl rfl rfl rfl
set_option maxRecDepth 20000 in
theorem s300_394 {d : Nat} {st : List Value} {h : aM} {Q : Option Value → aM → Prop} {lv : aV} : AW d 300 394 lv st h Q ↔ AW d 300 395 lv (.int 1 :: st) h Q := w_st rfl rfl rfl rfl rfl
set_option maxRecDepth 20000 in
theorem s300_395 {d : Nat} {st : List Value} {h : aM} {Q : Option Value → aM → Prop} {lv : aV} {x y : Int32} : AW d 300 395 lv (.int y :: .int x :: st) h Q ↔ AW d 300 396 lv (.int (x + y) :: st) h Q := w_st rfl rfl rfl rfl rfl
set_option maxRecDepth 20000 in
theorem s300_396 {d : Nat} {st : List Value} {h : aM} {Q : Option Value → aM → Prop} {lv : aV} {a : Nat} {i : Int32} : AW d 300 396 lv (.int i :: .ref a :: st) h Q ↔ inA h a 100 i ∧ AW d 300 397 lv (.int (gi h a i.toNatClampNeg) :: st) h Q := w_ite rfl rfl rfl rfl rfl aArr_iff
set_option maxRecDepth 20000 in
theorem s300_397 {d : Nat} {st : List Value} {h : aM} {Q : Option Value → aM → Prop} {lv : aV} {a : Nat} {x0 : Int32} : AW (d + 1) 300 397 lv (.int x0 :: .ref a :: st) h Q ↔ (sh h a = some (11, 50) ∧ cs st ≤ 8) ∧ AW d 217 0 [some (.ref a), some (.int x0)] [] h (fun v h => AW (d + 1) 300 400 lv (v.toList ++ st) h Q) := w_c (k := 300) (pc := 397) (pc' := 400) (as := [.ref a, .int x0]) (st := st) (st' := (.int x0 :: .ref a :: st)) (lv' := [some (.ref a), some (.int x0)]) (h := h) (r3 := 11) rfl rfl rfl mi217 rfl rfl (Nat.le_of_ble_eq_true rfl) (rc_v rfl) rfl rfl
set_option maxRecDepth 20000 in
theorem s300_400 {d : Nat} {st : List Value} {h : aM} {Q : Option Value → aM → Prop} {lv : aV} {x y : Int32} : AW d 300 400 lv (.int y :: .int x :: st) h Q ↔ if x = y then AW d 300 1703 lv st h Q else AW d 300 403 lv st h Q := w_if rfl rfl rfl rfl rfl c2_eq
set_option maxRecDepth 20000 in
theorem s300_403 {d : Nat} {st : List Value} {h : aM} {Q : Option Value → aM → Prop} {lv : aV} : AW d 300 403 lv st h Q ↔ AW d 300 404 lv (.int 0 :: st) h Q := w_st rfl rfl rfl rfl rfl
set_option maxRecDepth 20000 in
theorem s300_404 {d : Nat} {h : aM} {Q : Option Value → aM → Prop} {lv : aV} {x : Int32} : AW d 300 404 lv [.int x] h Q ↔ narrow .boolean (.int x) = .int x ∧ Q (some (.int x)) h := w_rz rfl rfl
set_option maxRecDepth 20000 in
theorem s300_405 {d : Nat} {st : List Value} {h : aM} {Q : Option Value → aM → Prop} {v0 v2 v3 v4 v5 v6 : Option Value} {x : Nat} : AW d 300 405 [v0, some (.ref x), v2, v3, v4, v5, v6] st h Q ↔ AW d 300 406 [v0, some (.ref x), v2, v3, v4, v5, v6] (.ref x :: st) h Q := w_st rfl rfl rfl rfl rfl
set_option maxRecDepth 20000 in
theorem s300_406 {d : Nat} {st : List Value} {h : aM} {Q : Option Value → aM → Prop} {v1 v2 v3 v4 v5 v6 : Option Value} {x : Nat} : AW d 300 406 [some (.ref x), v1, v2, v3, v4, v5, v6] st h Q ↔ AW d 300 407 [some (.ref x), v1, v2, v3, v4, v5, v6] (.ref x :: st) h Q := w_st rfl rfl rfl rfl rfl
set_option maxRecDepth 20000 in
theorem s300_407 {d : Nat} {st : List Value} {h : aM} {Q : Option Value → aM → Prop} {v0 v1 v2 v3 v5 v6 : Option Value} {x : Int32} : AW d 300 407 [v0, v1, v2, v3, some (.int x), v5, v6] st h Q ↔ AW d 300 409 [v0, v1, v2, v3, some (.int x), v5, v6] (.int x :: st) h Q := w_st rfl rfl rfl rfl rfl
set_option maxRecDepth 20000 in
theorem s300_409 {d : Nat} {st : List Value} {h : aM} {Q : Option Value → aM → Prop} {lv : aV} : AW d 300 409 lv st h Q ↔ AW d 300 410 lv (.int 1 :: st) h Q := w_st rfl rfl rfl rfl rfl
set_option maxRecDepth 20000 in
theorem s300_410 {d : Nat} {st : List Value} {h : aM} {Q : Option Value → aM → Prop} {lv : aV} {x y : Int32} : AW d 300 410 lv (.int y :: .int x :: st) h Q ↔ AW d 300 411 lv (.int (x + y) :: st) h Q := w_st rfl rfl rfl rfl rfl
set_option maxRecDepth 20000 in
theorem s300_411 {d : Nat} {st : List Value} {h : aM} {Q : Option Value → aM → Prop} {lv : aV} {a : Nat} {i : Int32} : AW d 300 411 lv (.int i :: .ref a :: st) h Q ↔ inA h a 100 i ∧ AW d 300 412 lv (.int (gi h a i.toNatClampNeg) :: st) h Q := w_ite rfl rfl rfl rfl rfl aArr_iff
set_option maxRecDepth 20000 in
theorem s300_412 {d : Nat} {st : List Value} {h : aM} {Q : Option Value → aM → Prop} {v1 v2 v3 v4 v5 v6 : Option Value} {x : Nat} : AW d 300 412 [some (.ref x), v1, v2, v3, v4, v5, v6] st h Q ↔ AW d 300 413 [some (.ref x), v1, v2, v3, v4, v5, v6] (.ref x :: st) h Q := w_st rfl rfl rfl rfl rfl
set_option maxRecDepth 20000 in
theorem s300_413 {d : Nat} {st : List Value} {h : aM} {Q : Option Value → aM → Prop} {v0 v1 v2 v3 v5 v6 : Option Value} {x : Int32} : AW d 300 413 [v0, v1, v2, v3, some (.int x), v5, v6] st h Q ↔ AW d 300 415 [v0, v1, v2, v3, some (.int x), v5, v6] (.int x :: st) h Q := w_st rfl rfl rfl rfl rfl
set_option maxRecDepth 20000 in
theorem s300_415 {d : Nat} {st : List Value} {h : aM} {Q : Option Value → aM → Prop} {lv : aV} : AW d 300 415 lv st h Q ↔ AW d 300 416 lv (.int 2 :: st) h Q := w_st rfl rfl rfl rfl rfl
set_option maxRecDepth 20000 in
theorem s300_416 {d : Nat} {st : List Value} {h : aM} {Q : Option Value → aM → Prop} {lv : aV} {x y : Int32} : AW d 300 416 lv (.int y :: .int x :: st) h Q ↔ AW d 300 417 lv (.int (x + y) :: st) h Q := w_st rfl rfl rfl rfl rfl
set_option maxRecDepth 20000 in
theorem s300_417 {d : Nat} {st : List Value} {h : aM} {Q : Option Value → aM → Prop} {lv : aV} {a : Nat} {i : Int32} : AW d 300 417 lv (.int i :: .ref a :: st) h Q ↔ inA h a 100 i ∧ AW d 300 418 lv (.int (gi h a i.toNatClampNeg) :: st) h Q := w_ite rfl rfl rfl rfl rfl aArr_iff
set_option maxRecDepth 20000 in
theorem s300_418 {d : Nat} {st : List Value} {h : aM} {Q : Option Value → aM → Prop} {v0 v1 v2 v4 v5 v6 : Option Value} {x : Nat} : AW d 300 418 [v0, v1, v2, some (.ref x), v4, v5, v6] st h Q ↔ AW d 300 419 [v0, v1, v2, some (.ref x), v4, v5, v6] (.ref x :: st) h Q := w_st rfl rfl rfl rfl rfl
set_option maxRecDepth 20000 in
theorem s300_422 {d : Nat} {st : List Value} {h : aM} {Q : Option Value → aM → Prop} {v0 v1 v2 v3 v4 v5 v6 : Option Value} {x : Int32} : AW d 300 422 [v0, v1, v2, v3, v4, v5, v6] (.int x :: st) h Q ↔ AW d 300 424 [v0, v1, v2, v3, kl v4, some (.int x), v6] st h Q := w_sv (i := 4) (x := .int x) rfl rfl rfl rfl rfl rfl (Nat.le_of_ble_eq_true rfl) rfl
set_option maxRecDepth 20000 in
theorem s300_424 {d : Nat} {st : List Value} {h : aM} {Q : Option Value → aM → Prop} {v0 v1 v3 v4 v5 v6 : Option Value} {x : Nat} : AW d 300 424 [v0, v1, some (.ref x), v3, v4, v5, v6] st h Q ↔ AW d 300 425 [v0, v1, some (.ref x), v3, v4, v5, v6] (.ref x :: st) h Q := w_st rfl rfl rfl rfl rfl
set_option maxRecDepth 20000 in
theorem s300_425 {d : Nat} {st : List Value} {h : aM} {Q : Option Value → aM → Prop} {v1 v2 v3 v4 v5 v6 : Option Value} {x : Nat} : AW d 300 425 [some (.ref x), v1, v2, v3, v4, v5, v6] st h Q ↔ AW d 300 426 [some (.ref x), v1, v2, v3, v4, v5, v6] (.ref x :: st) h Q := w_st rfl rfl rfl rfl rfl
set_option maxRecDepth 20000 in
theorem s300_426 {d : Nat} {st : List Value} {h : aM} {Q : Option Value → aM → Prop} {v0 v1 v2 v3 v5 v6 : Option Value} {x : Int32} : AW d 300 426 [v0, v1, v2, v3, some (.int x), v5, v6] st h Q ↔ AW d 300 428 [v0, v1, v2, v3, some (.int x), v5, v6] (.int x :: st) h Q := w_st rfl rfl rfl rfl rfl
set_option maxRecDepth 20000 in
theorem s300_428 {d : Nat} {st : List Value} {h : aM} {Q : Option Value → aM → Prop} {lv : aV} : AW d 300 428 lv st h Q ↔ AW d 300 429 lv (.int 1 :: st) h Q := w_st rfl rfl rfl rfl rfl
set_option maxRecDepth 20000 in
theorem s300_429 {d : Nat} {st : List Value} {h : aM} {Q : Option Value → aM → Prop} {lv : aV} {x y : Int32} : AW d 300 429 lv (.int y :: .int x :: st) h Q ↔ AW d 300 430 lv (.int (x + y) :: st) h Q := w_st rfl rfl rfl rfl rfl
set_option maxRecDepth 20000 in
theorem s300_430 {d : Nat} {st : List Value} {h : aM} {Q : Option Value → aM → Prop} {lv : aV} {a : Nat} {i : Int32} : AW d 300 430 lv (.int i :: .ref a :: st) h Q ↔ inA h a 100 i ∧ AW d 300 431 lv (.int (gi h a i.toNatClampNeg) :: st) h Q := w_ite rfl rfl rfl rfl rfl aArr_iff
set_option maxRecDepth 20000 in
theorem s300_431 {d : Nat} {st : List Value} {h : aM} {Q : Option Value → aM → Prop} {v1 v2 v3 v4 v5 v6 : Option Value} {x : Nat} : AW d 300 431 [some (.ref x), v1, v2, v3, v4, v5, v6] st h Q ↔ AW d 300 432 [some (.ref x), v1, v2, v3, v4, v5, v6] (.ref x :: st) h Q := w_st rfl rfl rfl rfl rfl
set_option maxRecDepth 20000 in
theorem s300_432 {d : Nat} {st : List Value} {h : aM} {Q : Option Value → aM → Prop} {v0 v1 v2 v3 v5 v6 : Option Value} {x : Int32} : AW d 300 432 [v0, v1, v2, v3, some (.int x), v5, v6] st h Q ↔ AW d 300 434 [v0, v1, v2, v3, some (.int x), v5, v6] (.int x :: st) h Q := w_st rfl rfl rfl rfl rfl
set_option maxRecDepth 20000 in
theorem s300_434 {d : Nat} {st : List Value} {h : aM} {Q : Option Value → aM → Prop} {lv : aV} : AW d 300 434 lv st h Q ↔ AW d 300 435 lv (.int 2 :: st) h Q := w_st rfl rfl rfl rfl rfl
set_option maxRecDepth 20000 in
theorem s300_435 {d : Nat} {st : List Value} {h : aM} {Q : Option Value → aM → Prop} {lv : aV} {x y : Int32} : AW d 300 435 lv (.int y :: .int x :: st) h Q ↔ AW d 300 436 lv (.int (x + y) :: st) h Q := w_st rfl rfl rfl rfl rfl
set_option maxRecDepth 20000 in
theorem s300_436 {d : Nat} {st : List Value} {h : aM} {Q : Option Value → aM → Prop} {lv : aV} {a : Nat} {i : Int32} : AW d 300 436 lv (.int i :: .ref a :: st) h Q ↔ inA h a 100 i ∧ AW d 300 437 lv (.int (gi h a i.toNatClampNeg) :: st) h Q := w_ite rfl rfl rfl rfl rfl aArr_iff
set_option maxRecDepth 20000 in
theorem s300_437 {d : Nat} {st : List Value} {h : aM} {Q : Option Value → aM → Prop} {lv : aV} {a : Nat} {x0 : Int32} {x1 : Int32} : AW (d + 1) 300 437 lv (.int x1 :: .int x0 :: .ref a :: st) h Q ↔ (sh h a = some (11, 50) ∧ cs st ≤ 8) ∧ AW d 218 0 [some (.ref a), some (.int x0), some (.int x1)] [] h (fun v h => AW (d + 1) 300 440 lv (v.toList ++ st) h Q) := w_c (k := 300) (pc := 437) (pc' := 440) (as := [.ref a, .int x0, .int x1]) (st := st) (st' := (.int x1 :: .int x0 :: .ref a :: st)) (lv' := [some (.ref a), some (.int x0), some (.int x1)]) (h := h) (r3 := 11) rfl rfl rfl mi218 rfl rfl (Nat.le_of_ble_eq_true rfl) (rc_v rfl) rfl rfl
set_option maxRecDepth 20000 in
theorem s300_440 {d : Nat} {st : List Value} {h : aM} {Q : Option Value → aM → Prop} {v0 v1 v2 v3 v4 v5 v6 : Option Value} {x : Int32} : AW d 300 440 [v0, v1, v2, v3, v4, v5, v6] (.int x :: st) h Q ↔ AW d 300 442 [v0, v1, v2, v3, v4, kl v5, some (.int x)] st h Q := w_sv (i := 5) (x := .int x) rfl rfl rfl rfl rfl rfl (Nat.le_of_ble_eq_true rfl) rfl
set_option maxRecDepth 20000 in
theorem s300_442 {d : Nat} {st : List Value} {h : aM} {Q : Option Value → aM → Prop} {v0 v1 v3 v4 v5 v6 : Option Value} {x : Nat} : AW d 300 442 [v0, v1, some (.ref x), v3, v4, v5, v6] st h Q ↔ AW d 300 443 [v0, v1, some (.ref x), v3, v4, v5, v6] (.ref x :: st) h Q := w_st rfl rfl rfl rfl rfl
set_option maxRecDepth 20000 in
theorem s300_443 {d : Nat} {st : List Value} {h : aM} {Q : Option Value → aM → Prop} {lv : aV} {a : Nat} : AW (d + 1) 300 443 lv (.ref a :: st) h Q ↔ (sh h a = some (11, 50) ∧ cs st ≤ 8) ∧ AW d 164 0 [some (.ref a)] [] h (fun v h => AW (d + 1) 300 446 lv (v.toList ++ st) h Q) := w_c (k := 300) (pc := 443) (pc' := 446) (as := [.ref a]) (st := st) (st' := (.ref a :: st)) (lv' := [some (.ref a)]) (h := h) (r3 := 11) rfl rfl rfl mi164 rfl rfl (Nat.le_of_ble_eq_true rfl) (rc_v rfl) rfl rfl
set_option maxRecDepth 20000 in
theorem s300_446 {d : Nat} {st : List Value} {h : aM} {Q : Option Value → aM → Prop} {v0 v1 v2 v3 v4 v6 : Option Value} {x : Int32} : AW d 300 446 [v0, v1, v2, v3, v4, some (.int x), v6] st h Q ↔ AW d 300 448 [v0, v1, v2, v3, v4, some (.int x), v6] (.int x :: st) h Q := w_st rfl rfl rfl rfl rfl
set_option maxRecDepth 20000 in
theorem s300_448 {d : Nat} {st : List Value} {h : aM} {Q : Option Value → aM → Prop} {lv : aV} {x y : Int32} : AW d 300 448 lv (.int y :: .int x :: st) h Q ↔ if x = y then AW d 300 453 lv st h Q else AW d 300 451 lv st h Q := w_if rfl rfl rfl rfl rfl c2_eq
set_option maxRecDepth 20000 in
theorem s300_451 {d : Nat} {st : List Value} {h : aM} {Q : Option Value → aM → Prop} {lv : aV} : AW d 300 451 lv st h Q ↔ AW d 300 452 lv (.int 0 :: st) h Q := w_st rfl rfl rfl rfl rfl
set_option maxRecDepth 20000 in
theorem s300_452 {d : Nat} {h : aM} {Q : Option Value → aM → Prop} {lv : aV} {x : Int32} : AW d 300 452 lv [.int x] h Q ↔ narrow .boolean (.int x) = .int x ∧ Q (some (.int x)) h := w_rz rfl rfl
set_option maxRecDepth 20000 in
theorem s300_453 {d : Nat} {st : List Value} {h : aM} {Q : Option Value → aM → Prop} {v0 v1 v2 v3 v4 v6 : Option Value} {x : Int32} : AW d 300 453 [v0, v1, v2, v3, v4, some (.int x), v6] st h Q ↔ AW d 300 455 [v0, v1, v2, v3, v4, some (.int x), v6] (.int x :: st) h Q := w_st rfl rfl rfl rfl rfl
set_option maxRecDepth 20000 in
theorem s300_455 {d : Nat} {st : List Value} {h : aM} {Q : Option Value → aM → Prop} {lv : aV} {x : Int32} : AW d 300 455 lv (.int x :: st) h Q ↔ if ¬ x = 0 then AW d 300 470 lv st h Q else AW d 300 458 lv st h Q := w_if rfl rfl rfl rfl rfl c0_ne
set_option maxRecDepth 20000 in
theorem s300_458 {d : Nat} {st : List Value} {h : aM} {Q : Option Value → aM → Prop} {v0 v1 v2 v4 v5 v6 : Option Value} {x : Nat} : AW d 300 458 [v0, v1, v2, some (.ref x), v4, v5, v6] st h Q ↔ AW d 300 459 [v0, v1, v2, some (.ref x), v4, v5, v6] (.ref x :: st) h Q := w_st rfl rfl rfl rfl rfl
set_option maxRecDepth 20000 in
theorem s300_459 {d : Nat} {st : List Value} {h : aM} {Q : Option Value → aM → Prop} {lv : aV} : AW d 300 459 lv st h Q ↔ AW d 300 460 lv (.int 0 :: st) h Q := w_st rfl rfl rfl rfl rfl
set_option maxRecDepth 20000 in
theorem s300_460 {d : Nat} {st : List Value} {h : aM} {Q : Option Value → aM → Prop} {lv : aV} {a : Nat} {i : Int32} : AW d 300 460 lv (.int i :: .ref a :: st) h Q ↔ (inA h a 101 i ∧ 32 ≤ a) ∧ AW d 300 461 lv (.long (gl h a i.toNatClampNeg) :: st) h Q := w_ite rfl rfl rfl rfl rfl c_ald
set_option maxRecDepth 20000 in
theorem s300_461 {d : Nat} {st : List Value} {h : aM} {Q : Option Value → aM → Prop} {v0 v1 v2 v3 v4 v5 : Option Value} {x : Int32} : AW d 300 461 [v0, v1, v2, v3, v4, v5, some (.int x)] st h Q ↔ AW d 300 463 [v0, v1, v2, v3, v4, v5, some (.int x)] (.int x :: st) h Q := w_st rfl rfl rfl rfl rfl
set_option maxRecDepth 20000 in
theorem s300_463 {d : Nat} {st : List Value} {h : aM} {Q : Option Value → aM → Prop} {lv : aV} {x : Int32} : AW d 300 463 lv (.int x :: st) h Q ↔ AW d 300 464 lv (.long x.toInt64 :: st) h Q := w_st rfl rfl rfl rfl rfl
set_option maxRecDepth 20000 in
theorem s300_464 {d : Nat} {st : List Value} {h : aM} {Q : Option Value → aM → Prop} {lv : aV} {x y : Int64} : AW d 300 464 lv (.long y :: .long x :: st) h Q ↔ AW d 300 465 lv (.int (lg_cmp x y) :: st) h Q := w_st rfl rfl rfl rfl rfl
set_option maxRecDepth 20000 in
theorem s300_465 {d : Nat} {st : List Value} {h : aM} {Q : Option Value → aM → Prop} {lv : aV} {x : Int32} : AW d 300 465 lv (.int x :: st) h Q ↔ if x = 0 then AW d 300 470 lv st h Q else AW d 300 468 lv st h Q := w_if rfl rfl rfl rfl rfl c0_eq
set_option maxRecDepth 20000 in
theorem s300_468 {d : Nat} {st : List Value} {h : aM} {Q : Option Value → aM → Prop} {lv : aV} : AW d 300 468 lv st h Q ↔ AW d 300 469 lv (.int 0 :: st) h Q := w_st rfl rfl rfl rfl rfl
set_option maxRecDepth 20000 in
theorem s300_469 {d : Nat} {h : aM} {Q : Option Value → aM → Prop} {lv : aV} {x : Int32} : AW d 300 469 lv [.int x] h Q ↔ narrow .boolean (.int x) = .int x ∧ Q (some (.int x)) h := w_rz rfl rfl
set_option maxRecDepth 20000 in
theorem s300_470 {d : Nat} {st : List Value} {h : aM} {Q : Option Value → aM → Prop} {lv : aV} : AW d 300 470 lv st h Q ↔ AW d 300 1703 lv st h Q := w_st rfl rfl rfl rfl rfl
set_option maxRecDepth 20000 in
theorem s300_473 {d : Nat} {st : List Value} {h : aM} {Q : Option Value → aM → Prop} {v0 v2 v3 v4 v5 v6 : Option Value} {x : Nat} : AW d 300 473 [v0, some (.ref x), v2, v3, v4, v5, v6] st h Q ↔ AW d 300 474 [v0, some (.ref x), v2, v3, v4, v5, v6] (.ref x :: st) h Q := w_st rfl rfl rfl rfl rfl
set_option maxRecDepth 20000 in
theorem s300_474 {d : Nat} {st : List Value} {h : aM} {Q : Option Value → aM → Prop} {v1 v2 v3 v4 v5 v6 : Option Value} {x : Nat} : AW d 300 474 [some (.ref x), v1, v2, v3, v4, v5, v6] st h Q ↔ AW d 300 475 [some (.ref x), v1, v2, v3, v4, v5, v6] (.ref x :: st) h Q := w_st rfl rfl rfl rfl rfl
set_option maxRecDepth 20000 in
theorem s300_475 {d : Nat} {st : List Value} {h : aM} {Q : Option Value → aM → Prop} {v0 v1 v2 v3 v5 v6 : Option Value} {x : Int32} : AW d 300 475 [v0, v1, v2, v3, some (.int x), v5, v6] st h Q ↔ AW d 300 477 [v0, v1, v2, v3, some (.int x), v5, v6] (.int x :: st) h Q := w_st rfl rfl rfl rfl rfl
set_option maxRecDepth 20000 in
theorem s300_477 {d : Nat} {st : List Value} {h : aM} {Q : Option Value → aM → Prop} {lv : aV} : AW d 300 477 lv st h Q ↔ AW d 300 478 lv (.int 1 :: st) h Q := w_st rfl rfl rfl rfl rfl
set_option maxRecDepth 20000 in
theorem s300_478 {d : Nat} {st : List Value} {h : aM} {Q : Option Value → aM → Prop} {lv : aV} {x y : Int32} : AW d 300 478 lv (.int y :: .int x :: st) h Q ↔ AW d 300 479 lv (.int (x + y) :: st) h Q := w_st rfl rfl rfl rfl rfl
set_option maxRecDepth 20000 in
theorem s300_479 {d : Nat} {st : List Value} {h : aM} {Q : Option Value → aM → Prop} {lv : aV} {a : Nat} {i : Int32} : AW d 300 479 lv (.int i :: .ref a :: st) h Q ↔ inA h a 100 i ∧ AW d 300 480 lv (.int (gi h a i.toNatClampNeg) :: st) h Q := w_ite rfl rfl rfl rfl rfl aArr_iff
set_option maxRecDepth 20000 in
theorem s300_480 {d : Nat} {st : List Value} {h : aM} {Q : Option Value → aM → Prop} {v1 v2 v3 v4 v5 v6 : Option Value} {x : Nat} : AW d 300 480 [some (.ref x), v1, v2, v3, v4, v5, v6] st h Q ↔ AW d 300 481 [some (.ref x), v1, v2, v3, v4, v5, v6] (.ref x :: st) h Q := w_st rfl rfl rfl rfl rfl
set_option maxRecDepth 20000 in
theorem s300_481 {d : Nat} {st : List Value} {h : aM} {Q : Option Value → aM → Prop} {v0 v1 v2 v3 v5 v6 : Option Value} {x : Int32} : AW d 300 481 [v0, v1, v2, v3, some (.int x), v5, v6] st h Q ↔ AW d 300 483 [v0, v1, v2, v3, some (.int x), v5, v6] (.int x :: st) h Q := w_st rfl rfl rfl rfl rfl
set_option maxRecDepth 20000 in
theorem s300_483 {d : Nat} {st : List Value} {h : aM} {Q : Option Value → aM → Prop} {lv : aV} : AW d 300 483 lv st h Q ↔ AW d 300 484 lv (.int 2 :: st) h Q := w_st rfl rfl rfl rfl rfl
set_option maxRecDepth 20000 in
theorem s300_484 {d : Nat} {st : List Value} {h : aM} {Q : Option Value → aM → Prop} {lv : aV} {x y : Int32} : AW d 300 484 lv (.int y :: .int x :: st) h Q ↔ AW d 300 485 lv (.int (x + y) :: st) h Q := w_st rfl rfl rfl rfl rfl
set_option maxRecDepth 20000 in
theorem s300_485 {d : Nat} {st : List Value} {h : aM} {Q : Option Value → aM → Prop} {lv : aV} {a : Nat} {i : Int32} : AW d 300 485 lv (.int i :: .ref a :: st) h Q ↔ inA h a 100 i ∧ AW d 300 486 lv (.int (gi h a i.toNatClampNeg) :: st) h Q := w_ite rfl rfl rfl rfl rfl aArr_iff
set_option maxRecDepth 20000 in
theorem s300_486 {d : Nat} {st : List Value} {h : aM} {Q : Option Value → aM → Prop} {lv : aV} {a : Nat} {x0 : Int32} {x1 : Int32} : AW (d + 1) 300 486 lv (.int x1 :: .int x0 :: .ref a :: st) h Q ↔ (sh h a = some (10, 19) ∧ cs st ≤ 8) ∧ AW d 96 0 [some (.ref a), some (.int x0), some (.int x1)] [] h (fun v h => AW (d + 1) 300 489 lv (v.toList ++ st) h Q) := w_c (k := 300) (pc := 486) (pc' := 489) (as := [.ref a, .int x0, .int x1]) (st := st) (st' := (.int x1 :: .int x0 :: .ref a :: st)) (lv' := [some (.ref a), some (.int x0), some (.int x1)]) (h := h) (r3 := 10) rfl rfl rfl mi96 rfl rfl (Nat.le_of_ble_eq_true rfl) (rc_v rfl) rfl rfl
set_option maxRecDepth 20000 in
theorem s300_489 {d : Nat} {st : List Value} {h : aM} {Q : Option Value → aM → Prop} {v0 v1 v3 v4 v5 v6 : Option Value} {x : Nat} : AW d 300 489 [v0, v1, some (.ref x), v3, v4, v5, v6] st h Q ↔ AW d 300 490 [v0, v1, some (.ref x), v3, v4, v5, v6] (.ref x :: st) h Q := w_st rfl rfl rfl rfl rfl
set_option maxRecDepth 20000 in
theorem s300_490 {d : Nat} {st : List Value} {h : aM} {Q : Option Value → aM → Prop} {v1 v2 v3 v4 v5 v6 : Option Value} {x : Nat} : AW d 300 490 [some (.ref x), v1, v2, v3, v4, v5, v6] st h Q ↔ AW d 300 491 [some (.ref x), v1, v2, v3, v4, v5, v6] (.ref x :: st) h Q := w_st rfl rfl rfl rfl rfl
set_option maxRecDepth 20000 in
theorem s300_491 {d : Nat} {st : List Value} {h : aM} {Q : Option Value → aM → Prop} {v0 v1 v2 v3 v5 v6 : Option Value} {x : Int32} : AW d 300 491 [v0, v1, v2, v3, some (.int x), v5, v6] st h Q ↔ AW d 300 493 [v0, v1, v2, v3, some (.int x), v5, v6] (.int x :: st) h Q := w_st rfl rfl rfl rfl rfl
set_option maxRecDepth 20000 in
theorem s300_493 {d : Nat} {st : List Value} {h : aM} {Q : Option Value → aM → Prop} {lv : aV} : AW d 300 493 lv st h Q ↔ AW d 300 494 lv (.int 1 :: st) h Q := w_st rfl rfl rfl rfl rfl
set_option maxRecDepth 20000 in
theorem s300_494 {d : Nat} {st : List Value} {h : aM} {Q : Option Value → aM → Prop} {lv : aV} {x y : Int32} : AW d 300 494 lv (.int y :: .int x :: st) h Q ↔ AW d 300 495 lv (.int (x + y) :: st) h Q := w_st rfl rfl rfl rfl rfl
set_option maxRecDepth 20000 in
theorem s300_495 {d : Nat} {st : List Value} {h : aM} {Q : Option Value → aM → Prop} {lv : aV} {a : Nat} {i : Int32} : AW d 300 495 lv (.int i :: .ref a :: st) h Q ↔ inA h a 100 i ∧ AW d 300 496 lv (.int (gi h a i.toNatClampNeg) :: st) h Q := w_ite rfl rfl rfl rfl rfl aArr_iff
set_option maxRecDepth 20000 in
theorem s300_496 {d : Nat} {st : List Value} {h : aM} {Q : Option Value → aM → Prop} {v1 v2 v3 v4 v5 v6 : Option Value} {x : Nat} : AW d 300 496 [some (.ref x), v1, v2, v3, v4, v5, v6] st h Q ↔ AW d 300 497 [some (.ref x), v1, v2, v3, v4, v5, v6] (.ref x :: st) h Q := w_st rfl rfl rfl rfl rfl
set_option maxRecDepth 20000 in
theorem s300_497 {d : Nat} {st : List Value} {h : aM} {Q : Option Value → aM → Prop} {v0 v1 v2 v3 v5 v6 : Option Value} {x : Int32} : AW d 300 497 [v0, v1, v2, v3, some (.int x), v5, v6] st h Q ↔ AW d 300 499 [v0, v1, v2, v3, some (.int x), v5, v6] (.int x :: st) h Q := w_st rfl rfl rfl rfl rfl
set_option maxRecDepth 20000 in
theorem s300_499 {d : Nat} {st : List Value} {h : aM} {Q : Option Value → aM → Prop} {lv : aV} : AW d 300 499 lv st h Q ↔ AW d 300 500 lv (.int 2 :: st) h Q := w_st rfl rfl rfl rfl rfl
set_option maxRecDepth 20000 in
theorem s300_500 {d : Nat} {st : List Value} {h : aM} {Q : Option Value → aM → Prop} {lv : aV} {x y : Int32} : AW d 300 500 lv (.int y :: .int x :: st) h Q ↔ AW d 300 501 lv (.int (x + y) :: st) h Q := w_st rfl rfl rfl rfl rfl
set_option maxRecDepth 20000 in
theorem s300_501 {d : Nat} {st : List Value} {h : aM} {Q : Option Value → aM → Prop} {lv : aV} {a : Nat} {i : Int32} : AW d 300 501 lv (.int i :: .ref a :: st) h Q ↔ inA h a 100 i ∧ AW d 300 502 lv (.int (gi h a i.toNatClampNeg) :: st) h Q := w_ite rfl rfl rfl rfl rfl aArr_iff
set_option maxRecDepth 20000 in
theorem s300_502 {d : Nat} {st : List Value} {h : aM} {Q : Option Value → aM → Prop} {lv : aV} {a : Nat} {x0 : Int32} {x1 : Int32} : AW (d + 1) 300 502 lv (.int x1 :: .int x0 :: .ref a :: st) h Q ↔ (sh h a = some (11, 50) ∧ cs st ≤ 8) ∧ AW d 219 0 [some (.ref a), some (.int x0), some (.int x1)] [] h (fun v h => AW (d + 1) 300 505 lv (v.toList ++ st) h Q) := w_c (k := 300) (pc := 502) (pc' := 505) (as := [.ref a, .int x0, .int x1]) (st := st) (st' := (.int x1 :: .int x0 :: .ref a :: st)) (lv' := [some (.ref a), some (.int x0), some (.int x1)]) (h := h) (r3 := 11) rfl rfl rfl mi219 rfl rfl (Nat.le_of_ble_eq_true rfl) (rc_v rfl) rfl rfl
set_option maxRecDepth 20000 in
theorem s300_505 {d : Nat} {st : List Value} {h : aM} {Q : Option Value → aM → Prop} {lv : aV} {x y : Int32} : AW d 300 505 lv (.int y :: .int x :: st) h Q ↔ if x = y then AW d 300 1703 lv st h Q else AW d 300 508 lv st h Q := w_if rfl rfl rfl rfl rfl c2_eq
set_option maxRecDepth 20000 in
theorem s300_508 {d : Nat} {st : List Value} {h : aM} {Q : Option Value → aM → Prop} {lv : aV} : AW d 300 508 lv st h Q ↔ AW d 300 509 lv (.int 0 :: st) h Q := w_st rfl rfl rfl rfl rfl
set_option maxRecDepth 20000 in
theorem s300_509 {d : Nat} {h : aM} {Q : Option Value → aM → Prop} {lv : aV} {x : Int32} : AW d 300 509 lv [.int x] h Q ↔ narrow .boolean (.int x) = .int x ∧ Q (some (.int x)) h := w_rz rfl rfl
set_option maxRecDepth 20000 in
theorem s300_510 {d : Nat} {st : List Value} {h : aM} {Q : Option Value → aM → Prop} {v0 v2 v3 v4 v5 v6 : Option Value} {x : Nat} : AW d 300 510 [v0, some (.ref x), v2, v3, v4, v5, v6] st h Q ↔ AW d 300 511 [v0, some (.ref x), v2, v3, v4, v5, v6] (.ref x :: st) h Q := w_st rfl rfl rfl rfl rfl
set_option maxRecDepth 20000 in
theorem s300_511 {d : Nat} {st : List Value} {h : aM} {Q : Option Value → aM → Prop} {v1 v2 v3 v4 v5 v6 : Option Value} {x : Nat} : AW d 300 511 [some (.ref x), v1, v2, v3, v4, v5, v6] st h Q ↔ AW d 300 512 [some (.ref x), v1, v2, v3, v4, v5, v6] (.ref x :: st) h Q := w_st rfl rfl rfl rfl rfl
set_option maxRecDepth 20000 in
theorem s300_512 {d : Nat} {st : List Value} {h : aM} {Q : Option Value → aM → Prop} {v0 v1 v2 v3 v5 v6 : Option Value} {x : Int32} : AW d 300 512 [v0, v1, v2, v3, some (.int x), v5, v6] st h Q ↔ AW d 300 514 [v0, v1, v2, v3, some (.int x), v5, v6] (.int x :: st) h Q := w_st rfl rfl rfl rfl rfl
set_option maxRecDepth 20000 in
theorem s300_514 {d : Nat} {st : List Value} {h : aM} {Q : Option Value → aM → Prop} {lv : aV} : AW d 300 514 lv st h Q ↔ AW d 300 515 lv (.int 1 :: st) h Q := w_st rfl rfl rfl rfl rfl
set_option maxRecDepth 20000 in
theorem s300_515 {d : Nat} {st : List Value} {h : aM} {Q : Option Value → aM → Prop} {lv : aV} {x y : Int32} : AW d 300 515 lv (.int y :: .int x :: st) h Q ↔ AW d 300 516 lv (.int (x + y) :: st) h Q := w_st rfl rfl rfl rfl rfl
set_option maxRecDepth 20000 in
theorem s300_516 {d : Nat} {st : List Value} {h : aM} {Q : Option Value → aM → Prop} {lv : aV} {a : Nat} {i : Int32} : AW d 300 516 lv (.int i :: .ref a :: st) h Q ↔ inA h a 100 i ∧ AW d 300 517 lv (.int (gi h a i.toNatClampNeg) :: st) h Q := w_ite rfl rfl rfl rfl rfl aArr_iff
set_option maxRecDepth 20000 in
theorem s300_517 {d : Nat} {st : List Value} {h : aM} {Q : Option Value → aM → Prop} {lv : aV} {a : Nat} {x0 : Int32} : AW (d + 1) 300 517 lv (.int x0 :: .ref a :: st) h Q ↔ (sh h a = some (10, 19) ∧ cs st ≤ 8) ∧ AW d 97 0 [some (.ref a), some (.int x0)] [] h (fun v h => AW (d + 1) 300 520 lv (v.toList ++ st) h Q) := w_c (k := 300) (pc := 517) (pc' := 520) (as := [.ref a, .int x0]) (st := st) (st' := (.int x0 :: .ref a :: st)) (lv' := [some (.ref a), some (.int x0)]) (h := h) (r3 := 10) rfl rfl rfl mi97 rfl rfl (Nat.le_of_ble_eq_true rfl) (rc_v rfl) rfl rfl
set_option maxRecDepth 20000 in
theorem s300_520 {d : Nat} {st : List Value} {h : aM} {Q : Option Value → aM → Prop} {v0 v1 v3 v4 v5 v6 : Option Value} {x : Nat} : AW d 300 520 [v0, v1, some (.ref x), v3, v4, v5, v6] st h Q ↔ AW d 300 521 [v0, v1, some (.ref x), v3, v4, v5, v6] (.ref x :: st) h Q := w_st rfl rfl rfl rfl rfl
set_option maxRecDepth 20000 in
theorem s300_521 {d : Nat} {st : List Value} {h : aM} {Q : Option Value → aM → Prop} {v1 v2 v3 v4 v5 v6 : Option Value} {x : Nat} : AW d 300 521 [some (.ref x), v1, v2, v3, v4, v5, v6] st h Q ↔ AW d 300 522 [some (.ref x), v1, v2, v3, v4, v5, v6] (.ref x :: st) h Q := w_st rfl rfl rfl rfl rfl
set_option maxRecDepth 20000 in
theorem s300_522 {d : Nat} {st : List Value} {h : aM} {Q : Option Value → aM → Prop} {v0 v1 v2 v3 v5 v6 : Option Value} {x : Int32} : AW d 300 522 [v0, v1, v2, v3, some (.int x), v5, v6] st h Q ↔ AW d 300 524 [v0, v1, v2, v3, some (.int x), v5, v6] (.int x :: st) h Q := w_st rfl rfl rfl rfl rfl
set_option maxRecDepth 20000 in
theorem s300_524 {d : Nat} {st : List Value} {h : aM} {Q : Option Value → aM → Prop} {lv : aV} : AW d 300 524 lv st h Q ↔ AW d 300 525 lv (.int 1 :: st) h Q := w_st rfl rfl rfl rfl rfl
set_option maxRecDepth 20000 in
theorem s300_525 {d : Nat} {st : List Value} {h : aM} {Q : Option Value → aM → Prop} {lv : aV} {x y : Int32} : AW d 300 525 lv (.int y :: .int x :: st) h Q ↔ AW d 300 526 lv (.int (x + y) :: st) h Q := w_st rfl rfl rfl rfl rfl
set_option maxRecDepth 20000 in
theorem s300_526 {d : Nat} {st : List Value} {h : aM} {Q : Option Value → aM → Prop} {lv : aV} {a : Nat} {i : Int32} : AW d 300 526 lv (.int i :: .ref a :: st) h Q ↔ inA h a 100 i ∧ AW d 300 527 lv (.int (gi h a i.toNatClampNeg) :: st) h Q := w_ite rfl rfl rfl rfl rfl aArr_iff
set_option maxRecDepth 20000 in
theorem s300_527 {d : Nat} {st : List Value} {h : aM} {Q : Option Value → aM → Prop} {lv : aV} {a : Nat} {x0 : Int32} : AW (d + 1) 300 527 lv (.int x0 :: .ref a :: st) h Q ↔ (sh h a = some (11, 50) ∧ cs st ≤ 8) ∧ AW d 220 0 [some (.ref a), some (.int x0)] [] h (fun v h => AW (d + 1) 300 530 lv (v.toList ++ st) h Q) := w_c (k := 300) (pc := 527) (pc' := 530) (as := [.ref a, .int x0]) (st := st) (st' := (.int x0 :: .ref a :: st)) (lv' := [some (.ref a), some (.int x0)]) (h := h) (r3 := 11) rfl rfl rfl mi220 rfl rfl (Nat.le_of_ble_eq_true rfl) (rc_v rfl) rfl rfl
set_option maxRecDepth 20000 in
theorem s300_530 {d : Nat} {st : List Value} {h : aM} {Q : Option Value → aM → Prop} {lv : aV} {x y : Int32} : AW d 300 530 lv (.int y :: .int x :: st) h Q ↔ if x = y then AW d 300 1703 lv st h Q else AW d 300 533 lv st h Q := w_if rfl rfl rfl rfl rfl c2_eq
set_option maxRecDepth 20000 in
theorem s300_533 {d : Nat} {st : List Value} {h : aM} {Q : Option Value → aM → Prop} {lv : aV} : AW d 300 533 lv st h Q ↔ AW d 300 534 lv (.int 0 :: st) h Q := w_st rfl rfl rfl rfl rfl
set_option maxRecDepth 20000 in
theorem s300_534 {d : Nat} {h : aM} {Q : Option Value → aM → Prop} {lv : aV} {x : Int32} : AW d 300 534 lv [.int x] h Q ↔ narrow .boolean (.int x) = .int x ∧ Q (some (.int x)) h := w_rz rfl rfl
set_option maxRecDepth 20000 in
theorem s300_535 {d : Nat} {st : List Value} {h : aM} {Q : Option Value → aM → Prop} {v0 v2 v3 v4 v5 v6 : Option Value} {x : Nat} : AW d 300 535 [v0, some (.ref x), v2, v3, v4, v5, v6] st h Q ↔ AW d 300 536 [v0, some (.ref x), v2, v3, v4, v5, v6] (.ref x :: st) h Q := w_st rfl rfl rfl rfl rfl
set_option maxRecDepth 20000 in
theorem s300_536 {d : Nat} {st : List Value} {h : aM} {Q : Option Value → aM → Prop} {v1 v2 v3 v4 v5 v6 : Option Value} {x : Nat} : AW d 300 536 [some (.ref x), v1, v2, v3, v4, v5, v6] st h Q ↔ AW d 300 537 [some (.ref x), v1, v2, v3, v4, v5, v6] (.ref x :: st) h Q := w_st rfl rfl rfl rfl rfl
set_option maxRecDepth 20000 in
theorem s300_537 {d : Nat} {st : List Value} {h : aM} {Q : Option Value → aM → Prop} {v0 v1 v2 v3 v5 v6 : Option Value} {x : Int32} : AW d 300 537 [v0, v1, v2, v3, some (.int x), v5, v6] st h Q ↔ AW d 300 539 [v0, v1, v2, v3, some (.int x), v5, v6] (.int x :: st) h Q := w_st rfl rfl rfl rfl rfl
set_option maxRecDepth 20000 in
theorem s300_539 {d : Nat} {st : List Value} {h : aM} {Q : Option Value → aM → Prop} {lv : aV} : AW d 300 539 lv st h Q ↔ AW d 300 540 lv (.int 1 :: st) h Q := w_st rfl rfl rfl rfl rfl
set_option maxRecDepth 20000 in
theorem s300_540 {d : Nat} {st : List Value} {h : aM} {Q : Option Value → aM → Prop} {lv : aV} {x y : Int32} : AW d 300 540 lv (.int y :: .int x :: st) h Q ↔ AW d 300 541 lv (.int (x + y) :: st) h Q := w_st rfl rfl rfl rfl rfl
set_option maxRecDepth 20000 in
theorem s300_541 {d : Nat} {st : List Value} {h : aM} {Q : Option Value → aM → Prop} {lv : aV} {a : Nat} {i : Int32} : AW d 300 541 lv (.int i :: .ref a :: st) h Q ↔ inA h a 100 i ∧ AW d 300 542 lv (.int (gi h a i.toNatClampNeg) :: st) h Q := w_ite rfl rfl rfl rfl rfl aArr_iff
set_option maxRecDepth 20000 in
theorem s300_542 {d : Nat} {st : List Value} {h : aM} {Q : Option Value → aM → Prop} {v1 v2 v3 v4 v5 v6 : Option Value} {x : Nat} : AW d 300 542 [some (.ref x), v1, v2, v3, v4, v5, v6] st h Q ↔ AW d 300 543 [some (.ref x), v1, v2, v3, v4, v5, v6] (.ref x :: st) h Q := w_st rfl rfl rfl rfl rfl
set_option maxRecDepth 20000 in
theorem s300_543 {d : Nat} {st : List Value} {h : aM} {Q : Option Value → aM → Prop} {v0 v1 v2 v3 v5 v6 : Option Value} {x : Int32} : AW d 300 543 [v0, v1, v2, v3, some (.int x), v5, v6] st h Q ↔ AW d 300 545 [v0, v1, v2, v3, some (.int x), v5, v6] (.int x :: st) h Q := w_st rfl rfl rfl rfl rfl
set_option maxRecDepth 20000 in
theorem s300_545 {d : Nat} {st : List Value} {h : aM} {Q : Option Value → aM → Prop} {lv : aV} : AW d 300 545 lv st h Q ↔ AW d 300 546 lv (.int 2 :: st) h Q := w_st rfl rfl rfl rfl rfl
set_option maxRecDepth 20000 in
theorem s300_546 {d : Nat} {st : List Value} {h : aM} {Q : Option Value → aM → Prop} {lv : aV} {x y : Int32} : AW d 300 546 lv (.int y :: .int x :: st) h Q ↔ AW d 300 547 lv (.int (x + y) :: st) h Q := w_st rfl rfl rfl rfl rfl
set_option maxRecDepth 20000 in
theorem s300_547 {d : Nat} {st : List Value} {h : aM} {Q : Option Value → aM → Prop} {lv : aV} {a : Nat} {i : Int32} : AW d 300 547 lv (.int i :: .ref a :: st) h Q ↔ inA h a 100 i ∧ AW d 300 548 lv (.int (gi h a i.toNatClampNeg) :: st) h Q := w_ite rfl rfl rfl rfl rfl aArr_iff
set_option maxRecDepth 20000 in
theorem s300_548 {d : Nat} {st : List Value} {h : aM} {Q : Option Value → aM → Prop} {lv : aV} {a : Nat} {x0 : Int32} {x1 : Int32} : AW (d + 1) 300 548 lv (.int x1 :: .int x0 :: .ref a :: st) h Q ↔ (sh h a = some (10, 19) ∧ cs st ≤ 8) ∧ AW d 98 0 [some (.ref a), some (.int x0), some (.int x1)] [] h (fun v h => AW (d + 1) 300 551 lv (v.toList ++ st) h Q) := w_c (k := 300) (pc := 548) (pc' := 551) (as := [.ref a, .int x0, .int x1]) (st := st) (st' := (.int x1 :: .int x0 :: .ref a :: st)) (lv' := [some (.ref a), some (.int x0), some (.int x1)]) (h := h) (r3 := 10) rfl rfl rfl mi98 rfl rfl (Nat.le_of_ble_eq_true rfl) (rc_v rfl) rfl rfl
set_option maxRecDepth 20000 in
theorem s300_551 {d : Nat} {st : List Value} {h : aM} {Q : Option Value → aM → Prop} {v0 v1 v3 v4 v5 v6 : Option Value} {x : Nat} : AW d 300 551 [v0, v1, some (.ref x), v3, v4, v5, v6] st h Q ↔ AW d 300 552 [v0, v1, some (.ref x), v3, v4, v5, v6] (.ref x :: st) h Q := w_st rfl rfl rfl rfl rfl
set_option maxRecDepth 20000 in
theorem s300_552 {d : Nat} {st : List Value} {h : aM} {Q : Option Value → aM → Prop} {v1 v2 v3 v4 v5 v6 : Option Value} {x : Nat} : AW d 300 552 [some (.ref x), v1, v2, v3, v4, v5, v6] st h Q ↔ AW d 300 553 [some (.ref x), v1, v2, v3, v4, v5, v6] (.ref x :: st) h Q := w_st rfl rfl rfl rfl rfl
set_option maxRecDepth 20000 in
theorem s300_553 {d : Nat} {st : List Value} {h : aM} {Q : Option Value → aM → Prop} {v0 v1 v2 v3 v5 v6 : Option Value} {x : Int32} : AW d 300 553 [v0, v1, v2, v3, some (.int x), v5, v6] st h Q ↔ AW d 300 555 [v0, v1, v2, v3, some (.int x), v5, v6] (.int x :: st) h Q := w_st rfl rfl rfl rfl rfl
set_option maxRecDepth 20000 in
theorem s300_555 {d : Nat} {st : List Value} {h : aM} {Q : Option Value → aM → Prop} {lv : aV} : AW d 300 555 lv st h Q ↔ AW d 300 556 lv (.int 1 :: st) h Q := w_st rfl rfl rfl rfl rfl
set_option maxRecDepth 20000 in
theorem s300_556 {d : Nat} {st : List Value} {h : aM} {Q : Option Value → aM → Prop} {lv : aV} {x y : Int32} : AW d 300 556 lv (.int y :: .int x :: st) h Q ↔ AW d 300 557 lv (.int (x + y) :: st) h Q := w_st rfl rfl rfl rfl rfl
set_option maxRecDepth 20000 in
theorem s300_557 {d : Nat} {st : List Value} {h : aM} {Q : Option Value → aM → Prop} {lv : aV} {a : Nat} {i : Int32} : AW d 300 557 lv (.int i :: .ref a :: st) h Q ↔ inA h a 100 i ∧ AW d 300 558 lv (.int (gi h a i.toNatClampNeg) :: st) h Q := w_ite rfl rfl rfl rfl rfl aArr_iff
set_option maxRecDepth 20000 in
theorem s300_558 {d : Nat} {st : List Value} {h : aM} {Q : Option Value → aM → Prop} {v1 v2 v3 v4 v5 v6 : Option Value} {x : Nat} : AW d 300 558 [some (.ref x), v1, v2, v3, v4, v5, v6] st h Q ↔ AW d 300 559 [some (.ref x), v1, v2, v3, v4, v5, v6] (.ref x :: st) h Q := w_st rfl rfl rfl rfl rfl
set_option maxRecDepth 20000 in
theorem s300_559 {d : Nat} {st : List Value} {h : aM} {Q : Option Value → aM → Prop} {v0 v1 v2 v3 v5 v6 : Option Value} {x : Int32} : AW d 300 559 [v0, v1, v2, v3, some (.int x), v5, v6] st h Q ↔ AW d 300 561 [v0, v1, v2, v3, some (.int x), v5, v6] (.int x :: st) h Q := w_st rfl rfl rfl rfl rfl
set_option maxRecDepth 20000 in
theorem s300_561 {d : Nat} {st : List Value} {h : aM} {Q : Option Value → aM → Prop} {lv : aV} : AW d 300 561 lv st h Q ↔ AW d 300 562 lv (.int 2 :: st) h Q := w_st rfl rfl rfl rfl rfl
set_option maxRecDepth 20000 in
theorem s300_562 {d : Nat} {st : List Value} {h : aM} {Q : Option Value → aM → Prop} {lv : aV} {x y : Int32} : AW d 300 562 lv (.int y :: .int x :: st) h Q ↔ AW d 300 563 lv (.int (x + y) :: st) h Q := w_st rfl rfl rfl rfl rfl
set_option maxRecDepth 20000 in
theorem s300_563 {d : Nat} {st : List Value} {h : aM} {Q : Option Value → aM → Prop} {lv : aV} {a : Nat} {i : Int32} : AW d 300 563 lv (.int i :: .ref a :: st) h Q ↔ inA h a 100 i ∧ AW d 300 564 lv (.int (gi h a i.toNatClampNeg) :: st) h Q := w_ite rfl rfl rfl rfl rfl aArr_iff
set_option maxRecDepth 20000 in
theorem s300_564 {d : Nat} {st : List Value} {h : aM} {Q : Option Value → aM → Prop} {lv : aV} {a : Nat} {x0 : Int32} {x1 : Int32} : AW (d + 1) 300 564 lv (.int x1 :: .int x0 :: .ref a :: st) h Q ↔ (sh h a = some (11, 50) ∧ cs st ≤ 8) ∧ AW d 221 0 [some (.ref a), some (.int x0), some (.int x1)] [] h (fun v h => AW (d + 1) 300 567 lv (v.toList ++ st) h Q) := w_c (k := 300) (pc := 564) (pc' := 567) (as := [.ref a, .int x0, .int x1]) (st := st) (st' := (.int x1 :: .int x0 :: .ref a :: st)) (lv' := [some (.ref a), some (.int x0), some (.int x1)]) (h := h) (r3 := 11) rfl rfl rfl mi221 rfl rfl (Nat.le_of_ble_eq_true rfl) (rc_v rfl) rfl rfl
set_option maxRecDepth 20000 in
theorem s300_567 {d : Nat} {st : List Value} {h : aM} {Q : Option Value → aM → Prop} {lv : aV} {x y : Int32} : AW d 300 567 lv (.int y :: .int x :: st) h Q ↔ if x = y then AW d 300 1703 lv st h Q else AW d 300 570 lv st h Q := w_if rfl rfl rfl rfl rfl c2_eq
set_option maxRecDepth 20000 in
theorem s300_570 {d : Nat} {st : List Value} {h : aM} {Q : Option Value → aM → Prop} {lv : aV} : AW d 300 570 lv st h Q ↔ AW d 300 571 lv (.int 0 :: st) h Q := w_st rfl rfl rfl rfl rfl
set_option maxRecDepth 20000 in
theorem s300_571 {d : Nat} {h : aM} {Q : Option Value → aM → Prop} {lv : aV} {x : Int32} : AW d 300 571 lv [.int x] h Q ↔ narrow .boolean (.int x) = .int x ∧ Q (some (.int x)) h := w_rz rfl rfl
set_option maxRecDepth 20000 in
theorem s300_572 {d : Nat} {st : List Value} {h : aM} {Q : Option Value → aM → Prop} {v0 v2 v3 v4 v5 v6 : Option Value} {x : Nat} : AW d 300 572 [v0, some (.ref x), v2, v3, v4, v5, v6] st h Q ↔ AW d 300 573 [v0, some (.ref x), v2, v3, v4, v5, v6] (.ref x :: st) h Q := w_st rfl rfl rfl rfl rfl
set_option maxRecDepth 20000 in
theorem s300_573 {d : Nat} {st : List Value} {h : aM} {Q : Option Value → aM → Prop} {v1 v2 v3 v4 v5 v6 : Option Value} {x : Nat} : AW d 300 573 [some (.ref x), v1, v2, v3, v4, v5, v6] st h Q ↔ AW d 300 574 [some (.ref x), v1, v2, v3, v4, v5, v6] (.ref x :: st) h Q := w_st rfl rfl rfl rfl rfl
set_option maxRecDepth 20000 in
theorem s300_574 {d : Nat} {st : List Value} {h : aM} {Q : Option Value → aM → Prop} {v0 v1 v2 v3 v5 v6 : Option Value} {x : Int32} : AW d 300 574 [v0, v1, v2, v3, some (.int x), v5, v6] st h Q ↔ AW d 300 576 [v0, v1, v2, v3, some (.int x), v5, v6] (.int x :: st) h Q := w_st rfl rfl rfl rfl rfl
set_option maxRecDepth 20000 in
theorem s300_576 {d : Nat} {st : List Value} {h : aM} {Q : Option Value → aM → Prop} {lv : aV} : AW d 300 576 lv st h Q ↔ AW d 300 577 lv (.int 1 :: st) h Q := w_st rfl rfl rfl rfl rfl
set_option maxRecDepth 20000 in
theorem s300_577 {d : Nat} {st : List Value} {h : aM} {Q : Option Value → aM → Prop} {lv : aV} {x y : Int32} : AW d 300 577 lv (.int y :: .int x :: st) h Q ↔ AW d 300 578 lv (.int (x + y) :: st) h Q := w_st rfl rfl rfl rfl rfl
set_option maxRecDepth 20000 in
theorem s300_578 {d : Nat} {st : List Value} {h : aM} {Q : Option Value → aM → Prop} {lv : aV} {a : Nat} {i : Int32} : AW d 300 578 lv (.int i :: .ref a :: st) h Q ↔ inA h a 100 i ∧ AW d 300 579 lv (.int (gi h a i.toNatClampNeg) :: st) h Q := w_ite rfl rfl rfl rfl rfl aArr_iff
set_option maxRecDepth 20000 in
theorem s300_579 {d : Nat} {st : List Value} {h : aM} {Q : Option Value → aM → Prop} {v1 v2 v3 v4 v5 v6 : Option Value} {x : Nat} : AW d 300 579 [some (.ref x), v1, v2, v3, v4, v5, v6] st h Q ↔ AW d 300 580 [some (.ref x), v1, v2, v3, v4, v5, v6] (.ref x :: st) h Q := w_st rfl rfl rfl rfl rfl
set_option maxRecDepth 20000 in
theorem s300_580 {d : Nat} {st : List Value} {h : aM} {Q : Option Value → aM → Prop} {v0 v1 v2 v3 v5 v6 : Option Value} {x : Int32} : AW d 300 580 [v0, v1, v2, v3, some (.int x), v5, v6] st h Q ↔ AW d 300 582 [v0, v1, v2, v3, some (.int x), v5, v6] (.int x :: st) h Q := w_st rfl rfl rfl rfl rfl
set_option maxRecDepth 20000 in
theorem s300_582 {d : Nat} {st : List Value} {h : aM} {Q : Option Value → aM → Prop} {lv : aV} : AW d 300 582 lv st h Q ↔ AW d 300 583 lv (.int 2 :: st) h Q := w_st rfl rfl rfl rfl rfl
set_option maxRecDepth 20000 in
theorem s300_583 {d : Nat} {st : List Value} {h : aM} {Q : Option Value → aM → Prop} {lv : aV} {x y : Int32} : AW d 300 583 lv (.int y :: .int x :: st) h Q ↔ AW d 300 584 lv (.int (x + y) :: st) h Q := w_st rfl rfl rfl rfl rfl
set_option maxRecDepth 20000 in
theorem s300_584 {d : Nat} {st : List Value} {h : aM} {Q : Option Value → aM → Prop} {lv : aV} {a : Nat} {i : Int32} : AW d 300 584 lv (.int i :: .ref a :: st) h Q ↔ inA h a 100 i ∧ AW d 300 585 lv (.int (gi h a i.toNatClampNeg) :: st) h Q := w_ite rfl rfl rfl rfl rfl aArr_iff
set_option maxRecDepth 20000 in
theorem s300_585 {d : Nat} {st : List Value} {h : aM} {Q : Option Value → aM → Prop} {lv : aV} {a : Nat} {x0 : Int32} {x1 : Int32} : AW (d + 1) 300 585 lv (.int x1 :: .int x0 :: .ref a :: st) h Q ↔ (sh h a = some (10, 19) ∧ cs st ≤ 8) ∧ AW d 107 0 [some (.ref a), some (.int x0), some (.int x1), none] [] h (fun v h => AW (d + 1) 300 588 lv (v.toList ++ st) h Q) := w_c (k := 300) (pc := 585) (pc' := 588) (as := [.ref a, .int x0, .int x1]) (st := st) (st' := (.int x1 :: .int x0 :: .ref a :: st)) (lv' := [some (.ref a), some (.int x0), some (.int x1), none]) (h := h) (r3 := 10) rfl rfl rfl mi107 rfl rfl (Nat.le_of_ble_eq_true rfl) (rc_v rfl) rfl rfl
set_option maxRecDepth 20000 in
theorem s300_588 {d : Nat} {st : List Value} {h : aM} {Q : Option Value → aM → Prop} {v0 v1 v3 v4 v5 v6 : Option Value} {x : Nat} : AW d 300 588 [v0, v1, some (.ref x), v3, v4, v5, v6] st h Q ↔ AW d 300 589 [v0, v1, some (.ref x), v3, v4, v5, v6] (.ref x :: st) h Q := w_st rfl rfl rfl rfl rfl
set_option maxRecDepth 20000 in
theorem s300_589 {d : Nat} {st : List Value} {h : aM} {Q : Option Value → aM → Prop} {v1 v2 v3 v4 v5 v6 : Option Value} {x : Nat} : AW d 300 589 [some (.ref x), v1, v2, v3, v4, v5, v6] st h Q ↔ AW d 300 590 [some (.ref x), v1, v2, v3, v4, v5, v6] (.ref x :: st) h Q := w_st rfl rfl rfl rfl rfl
set_option maxRecDepth 20000 in
theorem s300_590 {d : Nat} {st : List Value} {h : aM} {Q : Option Value → aM → Prop} {v0 v1 v2 v3 v5 v6 : Option Value} {x : Int32} : AW d 300 590 [v0, v1, v2, v3, some (.int x), v5, v6] st h Q ↔ AW d 300 592 [v0, v1, v2, v3, some (.int x), v5, v6] (.int x :: st) h Q := w_st rfl rfl rfl rfl rfl
set_option maxRecDepth 20000 in
theorem s300_592 {d : Nat} {st : List Value} {h : aM} {Q : Option Value → aM → Prop} {lv : aV} : AW d 300 592 lv st h Q ↔ AW d 300 593 lv (.int 1 :: st) h Q := w_st rfl rfl rfl rfl rfl
set_option maxRecDepth 20000 in
theorem s300_593 {d : Nat} {st : List Value} {h : aM} {Q : Option Value → aM → Prop} {lv : aV} {x y : Int32} : AW d 300 593 lv (.int y :: .int x :: st) h Q ↔ AW d 300 594 lv (.int (x + y) :: st) h Q := w_st rfl rfl rfl rfl rfl
set_option maxRecDepth 20000 in
theorem s300_594 {d : Nat} {st : List Value} {h : aM} {Q : Option Value → aM → Prop} {lv : aV} {a : Nat} {i : Int32} : AW d 300 594 lv (.int i :: .ref a :: st) h Q ↔ inA h a 100 i ∧ AW d 300 595 lv (.int (gi h a i.toNatClampNeg) :: st) h Q := w_ite rfl rfl rfl rfl rfl aArr_iff
set_option maxRecDepth 20000 in
theorem s300_595 {d : Nat} {st : List Value} {h : aM} {Q : Option Value → aM → Prop} {v1 v2 v3 v4 v5 v6 : Option Value} {x : Nat} : AW d 300 595 [some (.ref x), v1, v2, v3, v4, v5, v6] st h Q ↔ AW d 300 596 [some (.ref x), v1, v2, v3, v4, v5, v6] (.ref x :: st) h Q := w_st rfl rfl rfl rfl rfl
set_option maxRecDepth 20000 in
theorem s300_596 {d : Nat} {st : List Value} {h : aM} {Q : Option Value → aM → Prop} {v0 v1 v2 v3 v5 v6 : Option Value} {x : Int32} : AW d 300 596 [v0, v1, v2, v3, some (.int x), v5, v6] st h Q ↔ AW d 300 598 [v0, v1, v2, v3, some (.int x), v5, v6] (.int x :: st) h Q := w_st rfl rfl rfl rfl rfl
set_option maxRecDepth 20000 in
theorem s300_598 {d : Nat} {st : List Value} {h : aM} {Q : Option Value → aM → Prop} {lv : aV} : AW d 300 598 lv st h Q ↔ AW d 300 599 lv (.int 2 :: st) h Q := w_st rfl rfl rfl rfl rfl
set_option maxRecDepth 20000 in
theorem s300_599 {d : Nat} {st : List Value} {h : aM} {Q : Option Value → aM → Prop} {lv : aV} {x y : Int32} : AW d 300 599 lv (.int y :: .int x :: st) h Q ↔ AW d 300 600 lv (.int (x + y) :: st) h Q := w_st rfl rfl rfl rfl rfl
set_option maxRecDepth 20000 in
theorem s300_600 {d : Nat} {st : List Value} {h : aM} {Q : Option Value → aM → Prop} {lv : aV} {a : Nat} {i : Int32} : AW d 300 600 lv (.int i :: .ref a :: st) h Q ↔ inA h a 100 i ∧ AW d 300 601 lv (.int (gi h a i.toNatClampNeg) :: st) h Q := w_ite rfl rfl rfl rfl rfl aArr_iff
set_option maxRecDepth 20000 in
theorem s300_601 {d : Nat} {st : List Value} {h : aM} {Q : Option Value → aM → Prop} {lv : aV} {a : Nat} {x0 : Int32} {x1 : Int32} : AW (d + 1) 300 601 lv (.int x1 :: .int x0 :: .ref a :: st) h Q ↔ (sh h a = some (11, 50) ∧ cs st ≤ 8) ∧ AW d 224 0 [some (.ref a), some (.int x0), some (.int x1)] [] h (fun v h => AW (d + 1) 300 604 lv (v.toList ++ st) h Q) := w_c (k := 300) (pc := 601) (pc' := 604) (as := [.ref a, .int x0, .int x1]) (st := st) (st' := (.int x1 :: .int x0 :: .ref a :: st)) (lv' := [some (.ref a), some (.int x0), some (.int x1)]) (h := h) (r3 := 11) rfl rfl rfl mi224 rfl rfl (Nat.le_of_ble_eq_true rfl) (rc_v rfl) rfl rfl
set_option maxRecDepth 20000 in
theorem s300_604 {d : Nat} {st : List Value} {h : aM} {Q : Option Value → aM → Prop} {lv : aV} {x y : Int32} : AW d 300 604 lv (.int y :: .int x :: st) h Q ↔ if x = y then AW d 300 1703 lv st h Q else AW d 300 607 lv st h Q := w_if rfl rfl rfl rfl rfl c2_eq
set_option maxRecDepth 20000 in
theorem s300_607 {d : Nat} {st : List Value} {h : aM} {Q : Option Value → aM → Prop} {lv : aV} : AW d 300 607 lv st h Q ↔ AW d 300 608 lv (.int 0 :: st) h Q := w_st rfl rfl rfl rfl rfl
set_option maxRecDepth 20000 in
theorem s300_608 {d : Nat} {h : aM} {Q : Option Value → aM → Prop} {lv : aV} {x : Int32} : AW d 300 608 lv [.int x] h Q ↔ narrow .boolean (.int x) = .int x ∧ Q (some (.int x)) h := w_rz rfl rfl
set_option maxRecDepth 20000 in
theorem s300_609 {d : Nat} {st : List Value} {h : aM} {Q : Option Value → aM → Prop} {v0 v2 v3 v4 v5 v6 : Option Value} {x : Nat} : AW d 300 609 [v0, some (.ref x), v2, v3, v4, v5, v6] st h Q ↔ AW d 300 610 [v0, some (.ref x), v2, v3, v4, v5, v6] (.ref x :: st) h Q := w_st rfl rfl rfl rfl rfl
set_option maxRecDepth 20000 in
theorem s300_610 {d : Nat} {st : List Value} {h : aM} {Q : Option Value → aM → Prop} {v1 v2 v3 v4 v5 v6 : Option Value} {x : Nat} : AW d 300 610 [some (.ref x), v1, v2, v3, v4, v5, v6] st h Q ↔ AW d 300 611 [some (.ref x), v1, v2, v3, v4, v5, v6] (.ref x :: st) h Q := w_st rfl rfl rfl rfl rfl
set_option maxRecDepth 20000 in
theorem s300_611 {d : Nat} {st : List Value} {h : aM} {Q : Option Value → aM → Prop} {v0 v1 v2 v3 v5 v6 : Option Value} {x : Int32} : AW d 300 611 [v0, v1, v2, v3, some (.int x), v5, v6] st h Q ↔ AW d 300 613 [v0, v1, v2, v3, some (.int x), v5, v6] (.int x :: st) h Q := w_st rfl rfl rfl rfl rfl
set_option maxRecDepth 20000 in
theorem s300_613 {d : Nat} {st : List Value} {h : aM} {Q : Option Value → aM → Prop} {lv : aV} : AW d 300 613 lv st h Q ↔ AW d 300 614 lv (.int 1 :: st) h Q := w_st rfl rfl rfl rfl rfl
set_option maxRecDepth 20000 in
theorem s300_614 {d : Nat} {st : List Value} {h : aM} {Q : Option Value → aM → Prop} {lv : aV} {x y : Int32} : AW d 300 614 lv (.int y :: .int x :: st) h Q ↔ AW d 300 615 lv (.int (x + y) :: st) h Q := w_st rfl rfl rfl rfl rfl
set_option maxRecDepth 20000 in
theorem s300_615 {d : Nat} {st : List Value} {h : aM} {Q : Option Value → aM → Prop} {lv : aV} {a : Nat} {i : Int32} : AW d 300 615 lv (.int i :: .ref a :: st) h Q ↔ inA h a 100 i ∧ AW d 300 616 lv (.int (gi h a i.toNatClampNeg) :: st) h Q := w_ite rfl rfl rfl rfl rfl aArr_iff
set_option maxRecDepth 20000 in
theorem s300_616 {d : Nat} {st : List Value} {h : aM} {Q : Option Value → aM → Prop} {v1 v2 v3 v4 v5 v6 : Option Value} {x : Nat} : AW d 300 616 [some (.ref x), v1, v2, v3, v4, v5, v6] st h Q ↔ AW d 300 617 [some (.ref x), v1, v2, v3, v4, v5, v6] (.ref x :: st) h Q := w_st rfl rfl rfl rfl rfl
set_option maxRecDepth 20000 in
theorem s300_617 {d : Nat} {st : List Value} {h : aM} {Q : Option Value → aM → Prop} {v0 v1 v2 v3 v5 v6 : Option Value} {x : Int32} : AW d 300 617 [v0, v1, v2, v3, some (.int x), v5, v6] st h Q ↔ AW d 300 619 [v0, v1, v2, v3, some (.int x), v5, v6] (.int x :: st) h Q := w_st rfl rfl rfl rfl rfl
set_option maxRecDepth 20000 in
theorem s300_619 {d : Nat} {st : List Value} {h : aM} {Q : Option Value → aM → Prop} {lv : aV} : AW d 300 619 lv st h Q ↔ AW d 300 620 lv (.int 2 :: st) h Q := w_st rfl rfl rfl rfl rfl
set_option maxRecDepth 20000 in
theorem s300_620 {d : Nat} {st : List Value} {h : aM} {Q : Option Value → aM → Prop} {lv : aV} {x y : Int32} : AW d 300 620 lv (.int y :: .int x :: st) h Q ↔ AW d 300 621 lv (.int (x + y) :: st) h Q := w_st rfl rfl rfl rfl rfl
set_option maxRecDepth 20000 in
theorem s300_621 {d : Nat} {st : List Value} {h : aM} {Q : Option Value → aM → Prop} {lv : aV} {a : Nat} {i : Int32} : AW d 300 621 lv (.int i :: .ref a :: st) h Q ↔ inA h a 100 i ∧ AW d 300 622 lv (.int (gi h a i.toNatClampNeg) :: st) h Q := w_ite rfl rfl rfl rfl rfl aArr_iff
set_option maxRecDepth 20000 in
theorem s300_622 {d : Nat} {st : List Value} {h : aM} {Q : Option Value → aM → Prop} {lv : aV} {a : Nat} {x0 : Int32} {x1 : Int32} : AW (d + 1) 300 622 lv (.int x1 :: .int x0 :: .ref a :: st) h Q ↔ (sh h a = some (10, 19) ∧ cs st ≤ 8) ∧ AW d 108 0 [some (.ref a), some (.int x0), some (.int x1)] [] h (fun v h => AW (d + 1) 300 625 lv (v.toList ++ st) h Q) := w_c (k := 300) (pc := 622) (pc' := 625) (as := [.ref a, .int x0, .int x1]) (st := st) (st' := (.int x1 :: .int x0 :: .ref a :: st)) (lv' := [some (.ref a), some (.int x0), some (.int x1)]) (h := h) (r3 := 10) rfl rfl rfl mi108 rfl rfl (Nat.le_of_ble_eq_true rfl) (rc_v rfl) rfl rfl
set_option maxRecDepth 20000 in
theorem s300_625 {d : Nat} {st : List Value} {h : aM} {Q : Option Value → aM → Prop} {v0 v1 v3 v4 v5 v6 : Option Value} {x : Nat} : AW d 300 625 [v0, v1, some (.ref x), v3, v4, v5, v6] st h Q ↔ AW d 300 626 [v0, v1, some (.ref x), v3, v4, v5, v6] (.ref x :: st) h Q := w_st rfl rfl rfl rfl rfl
set_option maxRecDepth 20000 in
theorem s300_626 {d : Nat} {st : List Value} {h : aM} {Q : Option Value → aM → Prop} {v1 v2 v3 v4 v5 v6 : Option Value} {x : Nat} : AW d 300 626 [some (.ref x), v1, v2, v3, v4, v5, v6] st h Q ↔ AW d 300 627 [some (.ref x), v1, v2, v3, v4, v5, v6] (.ref x :: st) h Q := w_st rfl rfl rfl rfl rfl
set_option maxRecDepth 20000 in
theorem s300_627 {d : Nat} {st : List Value} {h : aM} {Q : Option Value → aM → Prop} {v0 v1 v2 v3 v5 v6 : Option Value} {x : Int32} : AW d 300 627 [v0, v1, v2, v3, some (.int x), v5, v6] st h Q ↔ AW d 300 629 [v0, v1, v2, v3, some (.int x), v5, v6] (.int x :: st) h Q := w_st rfl rfl rfl rfl rfl
set_option maxRecDepth 20000 in
theorem s300_629 {d : Nat} {st : List Value} {h : aM} {Q : Option Value → aM → Prop} {lv : aV} : AW d 300 629 lv st h Q ↔ AW d 300 630 lv (.int 1 :: st) h Q := w_st rfl rfl rfl rfl rfl
set_option maxRecDepth 20000 in
theorem s300_630 {d : Nat} {st : List Value} {h : aM} {Q : Option Value → aM → Prop} {lv : aV} {x y : Int32} : AW d 300 630 lv (.int y :: .int x :: st) h Q ↔ AW d 300 631 lv (.int (x + y) :: st) h Q := w_st rfl rfl rfl rfl rfl
set_option maxRecDepth 20000 in
theorem s300_631 {d : Nat} {st : List Value} {h : aM} {Q : Option Value → aM → Prop} {lv : aV} {a : Nat} {i : Int32} : AW d 300 631 lv (.int i :: .ref a :: st) h Q ↔ inA h a 100 i ∧ AW d 300 632 lv (.int (gi h a i.toNatClampNeg) :: st) h Q := w_ite rfl rfl rfl rfl rfl aArr_iff
set_option maxRecDepth 20000 in
theorem s300_632 {d : Nat} {st : List Value} {h : aM} {Q : Option Value → aM → Prop} {v1 v2 v3 v4 v5 v6 : Option Value} {x : Nat} : AW d 300 632 [some (.ref x), v1, v2, v3, v4, v5, v6] st h Q ↔ AW d 300 633 [some (.ref x), v1, v2, v3, v4, v5, v6] (.ref x :: st) h Q := w_st rfl rfl rfl rfl rfl
set_option maxRecDepth 20000 in
theorem s300_633 {d : Nat} {st : List Value} {h : aM} {Q : Option Value → aM → Prop} {v0 v1 v2 v3 v5 v6 : Option Value} {x : Int32} : AW d 300 633 [v0, v1, v2, v3, some (.int x), v5, v6] st h Q ↔ AW d 300 635 [v0, v1, v2, v3, some (.int x), v5, v6] (.int x :: st) h Q := w_st rfl rfl rfl rfl rfl
set_option maxRecDepth 20000 in
theorem s300_635 {d : Nat} {st : List Value} {h : aM} {Q : Option Value → aM → Prop} {lv : aV} : AW d 300 635 lv st h Q ↔ AW d 300 636 lv (.int 2 :: st) h Q := w_st rfl rfl rfl rfl rfl
set_option maxRecDepth 20000 in
theorem s300_636 {d : Nat} {st : List Value} {h : aM} {Q : Option Value → aM → Prop} {lv : aV} {x y : Int32} : AW d 300 636 lv (.int y :: .int x :: st) h Q ↔ AW d 300 637 lv (.int (x + y) :: st) h Q := w_st rfl rfl rfl rfl rfl
set_option maxRecDepth 20000 in
theorem s300_637 {d : Nat} {st : List Value} {h : aM} {Q : Option Value → aM → Prop} {lv : aV} {a : Nat} {i : Int32} : AW d 300 637 lv (.int i :: .ref a :: st) h Q ↔ inA h a 100 i ∧ AW d 300 638 lv (.int (gi h a i.toNatClampNeg) :: st) h Q := w_ite rfl rfl rfl rfl rfl aArr_iff
set_option maxRecDepth 20000 in
theorem s300_638 {d : Nat} {st : List Value} {h : aM} {Q : Option Value → aM → Prop} {lv : aV} {a : Nat} {x0 : Int32} {x1 : Int32} : AW (d + 1) 300 638 lv (.int x1 :: .int x0 :: .ref a :: st) h Q ↔ (sh h a = some (11, 50) ∧ cs st ≤ 8) ∧ AW d 225 0 [some (.ref a), some (.int x0), some (.int x1)] [] h (fun v h => AW (d + 1) 300 641 lv (v.toList ++ st) h Q) := w_c (k := 300) (pc := 638) (pc' := 641) (as := [.ref a, .int x0, .int x1]) (st := st) (st' := (.int x1 :: .int x0 :: .ref a :: st)) (lv' := [some (.ref a), some (.int x0), some (.int x1)]) (h := h) (r3 := 11) rfl rfl rfl mi225 rfl rfl (Nat.le_of_ble_eq_true rfl) (rc_v rfl) rfl rfl
set_option maxRecDepth 20000 in
theorem s300_641 {d : Nat} {st : List Value} {h : aM} {Q : Option Value → aM → Prop} {lv : aV} {x y : Int32} : AW d 300 641 lv (.int y :: .int x :: st) h Q ↔ if x = y then AW d 300 1703 lv st h Q else AW d 300 644 lv st h Q := w_if rfl rfl rfl rfl rfl c2_eq
set_option maxRecDepth 20000 in
theorem s300_644 {d : Nat} {st : List Value} {h : aM} {Q : Option Value → aM → Prop} {lv : aV} : AW d 300 644 lv st h Q ↔ AW d 300 645 lv (.int 0 :: st) h Q := w_st rfl rfl rfl rfl rfl
set_option maxRecDepth 20000 in
theorem s300_645 {d : Nat} {h : aM} {Q : Option Value → aM → Prop} {lv : aV} {x : Int32} : AW d 300 645 lv [.int x] h Q ↔ narrow .boolean (.int x) = .int x ∧ Q (some (.int x)) h := w_rz rfl rfl
set_option maxRecDepth 20000 in
theorem s300_646 {d : Nat} {st : List Value} {h : aM} {Q : Option Value → aM → Prop} {v0 v2 v3 v4 v5 v6 : Option Value} {x : Nat} : AW d 300 646 [v0, some (.ref x), v2, v3, v4, v5, v6] st h Q ↔ AW d 300 647 [v0, some (.ref x), v2, v3, v4, v5, v6] (.ref x :: st) h Q := w_st rfl rfl rfl rfl rfl
set_option maxRecDepth 20000 in
theorem s300_647 {d : Nat} {st : List Value} {h : aM} {Q : Option Value → aM → Prop} {v1 v2 v3 v4 v5 v6 : Option Value} {x : Nat} : AW d 300 647 [some (.ref x), v1, v2, v3, v4, v5, v6] st h Q ↔ AW d 300 648 [some (.ref x), v1, v2, v3, v4, v5, v6] (.ref x :: st) h Q := w_st rfl rfl rfl rfl rfl
set_option maxRecDepth 20000 in
theorem s300_648 {d : Nat} {st : List Value} {h : aM} {Q : Option Value → aM → Prop} {v0 v1 v2 v3 v5 v6 : Option Value} {x : Int32} : AW d 300 648 [v0, v1, v2, v3, some (.int x), v5, v6] st h Q ↔ AW d 300 650 [v0, v1, v2, v3, some (.int x), v5, v6] (.int x :: st) h Q := w_st rfl rfl rfl rfl rfl
set_option maxRecDepth 20000 in
theorem s300_650 {d : Nat} {st : List Value} {h : aM} {Q : Option Value → aM → Prop} {lv : aV} : AW d 300 650 lv st h Q ↔ AW d 300 651 lv (.int 1 :: st) h Q := w_st rfl rfl rfl rfl rfl
set_option maxRecDepth 20000 in
theorem s300_651 {d : Nat} {st : List Value} {h : aM} {Q : Option Value → aM → Prop} {lv : aV} {x y : Int32} : AW d 300 651 lv (.int y :: .int x :: st) h Q ↔ AW d 300 652 lv (.int (x + y) :: st) h Q := w_st rfl rfl rfl rfl rfl
set_option maxRecDepth 20000 in
theorem s300_652 {d : Nat} {st : List Value} {h : aM} {Q : Option Value → aM → Prop} {lv : aV} {a : Nat} {i : Int32} : AW d 300 652 lv (.int i :: .ref a :: st) h Q ↔ inA h a 100 i ∧ AW d 300 653 lv (.int (gi h a i.toNatClampNeg) :: st) h Q := w_ite rfl rfl rfl rfl rfl aArr_iff
set_option maxRecDepth 20000 in
theorem s300_653 {d : Nat} {st : List Value} {h : aM} {Q : Option Value → aM → Prop} {lv : aV} {a : Nat} {x0 : Int32} : AW (d + 1) 300 653 lv (.int x0 :: .ref a :: st) h Q ↔ (sh h a = some (10, 19) ∧ cs st ≤ 8) ∧ AW d 109 0 [some (.ref a), some (.int x0)] [] h (fun v h => AW (d + 1) 300 656 lv (v.toList ++ st) h Q) := w_c (k := 300) (pc := 653) (pc' := 656) (as := [.ref a, .int x0]) (st := st) (st' := (.int x0 :: .ref a :: st)) (lv' := [some (.ref a), some (.int x0)]) (h := h) (r3 := 10) rfl rfl rfl mi109 rfl rfl (Nat.le_of_ble_eq_true rfl) (rc_v rfl) rfl rfl
set_option maxRecDepth 20000 in
theorem s300_656 {d : Nat} {st : List Value} {h : aM} {Q : Option Value → aM → Prop} {v0 v1 v3 v4 v5 v6 : Option Value} {x : Nat} : AW d 300 656 [v0, v1, some (.ref x), v3, v4, v5, v6] st h Q ↔ AW d 300 657 [v0, v1, some (.ref x), v3, v4, v5, v6] (.ref x :: st) h Q := w_st rfl rfl rfl rfl rfl
set_option maxRecDepth 20000 in
theorem s300_657 {d : Nat} {st : List Value} {h : aM} {Q : Option Value → aM → Prop} {v1 v2 v3 v4 v5 v6 : Option Value} {x : Nat} : AW d 300 657 [some (.ref x), v1, v2, v3, v4, v5, v6] st h Q ↔ AW d 300 658 [some (.ref x), v1, v2, v3, v4, v5, v6] (.ref x :: st) h Q := w_st rfl rfl rfl rfl rfl
set_option maxRecDepth 20000 in
theorem s300_658 {d : Nat} {st : List Value} {h : aM} {Q : Option Value → aM → Prop} {v0 v1 v2 v3 v5 v6 : Option Value} {x : Int32} : AW d 300 658 [v0, v1, v2, v3, some (.int x), v5, v6] st h Q ↔ AW d 300 660 [v0, v1, v2, v3, some (.int x), v5, v6] (.int x :: st) h Q := w_st rfl rfl rfl rfl rfl
set_option maxRecDepth 20000 in
theorem s300_660 {d : Nat} {st : List Value} {h : aM} {Q : Option Value → aM → Prop} {lv : aV} : AW d 300 660 lv st h Q ↔ AW d 300 661 lv (.int 1 :: st) h Q := w_st rfl rfl rfl rfl rfl
set_option maxRecDepth 20000 in
theorem s300_661 {d : Nat} {st : List Value} {h : aM} {Q : Option Value → aM → Prop} {lv : aV} {x y : Int32} : AW d 300 661 lv (.int y :: .int x :: st) h Q ↔ AW d 300 662 lv (.int (x + y) :: st) h Q := w_st rfl rfl rfl rfl rfl
set_option maxRecDepth 20000 in
theorem s300_662 {d : Nat} {st : List Value} {h : aM} {Q : Option Value → aM → Prop} {lv : aV} {a : Nat} {i : Int32} : AW d 300 662 lv (.int i :: .ref a :: st) h Q ↔ inA h a 100 i ∧ AW d 300 663 lv (.int (gi h a i.toNatClampNeg) :: st) h Q := w_ite rfl rfl rfl rfl rfl aArr_iff
set_option maxRecDepth 20000 in
theorem s300_663 {d : Nat} {st : List Value} {h : aM} {Q : Option Value → aM → Prop} {lv : aV} {a : Nat} {x0 : Int32} : AW (d + 1) 300 663 lv (.int x0 :: .ref a :: st) h Q ↔ (sh h a = some (11, 50) ∧ cs st ≤ 8) ∧ AW d 226 0 [some (.ref a), some (.int x0)] [] h (fun v h => AW (d + 1) 300 666 lv (v.toList ++ st) h Q) := w_c (k := 300) (pc := 663) (pc' := 666) (as := [.ref a, .int x0]) (st := st) (st' := (.int x0 :: .ref a :: st)) (lv' := [some (.ref a), some (.int x0)]) (h := h) (r3 := 11) rfl rfl rfl mi226 rfl rfl (Nat.le_of_ble_eq_true rfl) (rc_v rfl) rfl rfl
set_option maxRecDepth 20000 in
theorem s300_666 {d : Nat} {st : List Value} {h : aM} {Q : Option Value → aM → Prop} {lv : aV} {x y : Int32} : AW d 300 666 lv (.int y :: .int x :: st) h Q ↔ if x = y then AW d 300 1703 lv st h Q else AW d 300 669 lv st h Q := w_if rfl rfl rfl rfl rfl c2_eq
set_option maxRecDepth 20000 in
theorem s300_669 {d : Nat} {st : List Value} {h : aM} {Q : Option Value → aM → Prop} {lv : aV} : AW d 300 669 lv st h Q ↔ AW d 300 670 lv (.int 0 :: st) h Q := w_st rfl rfl rfl rfl rfl
set_option maxRecDepth 20000 in
theorem s300_670 {d : Nat} {h : aM} {Q : Option Value → aM → Prop} {lv : aV} {x : Int32} : AW d 300 670 lv [.int x] h Q ↔ narrow .boolean (.int x) = .int x ∧ Q (some (.int x)) h := w_rz rfl rfl
set_option maxRecDepth 20000 in
theorem s300_671 {d : Nat} {st : List Value} {h : aM} {Q : Option Value → aM → Prop} {v0 v2 v3 v4 v5 v6 : Option Value} {x : Nat} : AW d 300 671 [v0, some (.ref x), v2, v3, v4, v5, v6] st h Q ↔ AW d 300 672 [v0, some (.ref x), v2, v3, v4, v5, v6] (.ref x :: st) h Q := w_st rfl rfl rfl rfl rfl
set_option maxRecDepth 20000 in
theorem s300_672 {d : Nat} {st : List Value} {h : aM} {Q : Option Value → aM → Prop} {v1 v2 v3 v4 v5 v6 : Option Value} {x : Nat} : AW d 300 672 [some (.ref x), v1, v2, v3, v4, v5, v6] st h Q ↔ AW d 300 673 [some (.ref x), v1, v2, v3, v4, v5, v6] (.ref x :: st) h Q := w_st rfl rfl rfl rfl rfl
set_option maxRecDepth 20000 in
theorem s300_673 {d : Nat} {st : List Value} {h : aM} {Q : Option Value → aM → Prop} {v0 v1 v2 v3 v5 v6 : Option Value} {x : Int32} : AW d 300 673 [v0, v1, v2, v3, some (.int x), v5, v6] st h Q ↔ AW d 300 675 [v0, v1, v2, v3, some (.int x), v5, v6] (.int x :: st) h Q := w_st rfl rfl rfl rfl rfl
set_option maxRecDepth 20000 in
theorem s300_675 {d : Nat} {st : List Value} {h : aM} {Q : Option Value → aM → Prop} {lv : aV} : AW d 300 675 lv st h Q ↔ AW d 300 676 lv (.int 1 :: st) h Q := w_st rfl rfl rfl rfl rfl
set_option maxRecDepth 20000 in
theorem s300_676 {d : Nat} {st : List Value} {h : aM} {Q : Option Value → aM → Prop} {lv : aV} {x y : Int32} : AW d 300 676 lv (.int y :: .int x :: st) h Q ↔ AW d 300 677 lv (.int (x + y) :: st) h Q := w_st rfl rfl rfl rfl rfl
set_option maxRecDepth 20000 in
theorem s300_677 {d : Nat} {st : List Value} {h : aM} {Q : Option Value → aM → Prop} {lv : aV} {a : Nat} {i : Int32} : AW d 300 677 lv (.int i :: .ref a :: st) h Q ↔ inA h a 100 i ∧ AW d 300 678 lv (.int (gi h a i.toNatClampNeg) :: st) h Q := w_ite rfl rfl rfl rfl rfl aArr_iff
set_option maxRecDepth 20000 in
theorem s300_678 {d : Nat} {st : List Value} {h : aM} {Q : Option Value → aM → Prop} {lv : aV} {x : Int32} : AW d 300 678 lv (.int x :: st) h Q ↔ if x = 0 then AW d 300 685 lv st h Q else AW d 300 681 lv st h Q := w_if rfl rfl rfl rfl rfl c0_eq
set_option maxRecDepth 20000 in
theorem s300_681 {d : Nat} {st : List Value} {h : aM} {Q : Option Value → aM → Prop} {lv : aV} : AW d 300 681 lv st h Q ↔ AW d 300 682 lv (.int 1 :: st) h Q := w_st rfl rfl rfl rfl rfl
set_option maxRecDepth 20000 in
theorem s300_682 {d : Nat} {st : List Value} {h : aM} {Q : Option Value → aM → Prop} {lv : aV} : AW d 300 682 lv st h Q ↔ AW d 300 686 lv st h Q := w_st rfl rfl rfl rfl rfl
set_option maxRecDepth 20000 in
theorem s300_685 {d : Nat} {st : List Value} {h : aM} {Q : Option Value → aM → Prop} {lv : aV} : AW d 300 685 lv st h Q ↔ AW d 300 686 lv (.int 0 :: st) h Q := w_st rfl rfl rfl rfl rfl
set_option maxRecDepth 20000 in
theorem s300_686 {d : Nat} {st : List Value} {h : aM} {Q : Option Value → aM → Prop} {lv : aV} {a : Nat} {x0 : Int32} : AW (d + 1) 300 686 lv (.int x0 :: .ref a :: st) h Q ↔ (sh h a = some (10, 19) ∧ cs st ≤ 8) ∧ AW d 110 0 [some (.ref a), some (.int x0), none] [] h (fun v h => AW (d + 1) 300 689 lv (v.toList ++ st) h Q) := w_c (k := 300) (pc := 686) (pc' := 689) (as := [.ref a, .int x0]) (st := st) (st' := (.int x0 :: .ref a :: st)) (lv' := [some (.ref a), some (.int x0), none]) (h := h) (r3 := 10) rfl rfl rfl mi110 rfl rfl (Nat.le_of_ble_eq_true rfl) (rc_v rfl) rfl rfl
set_option maxRecDepth 20000 in
theorem s300_689 {d : Nat} {st : List Value} {h : aM} {Q : Option Value → aM → Prop} {v0 v1 v3 v4 v5 v6 : Option Value} {x : Nat} : AW d 300 689 [v0, v1, some (.ref x), v3, v4, v5, v6] st h Q ↔ AW d 300 690 [v0, v1, some (.ref x), v3, v4, v5, v6] (.ref x :: st) h Q := w_st rfl rfl rfl rfl rfl
set_option maxRecDepth 20000 in
theorem s300_690 {d : Nat} {st : List Value} {h : aM} {Q : Option Value → aM → Prop} {v1 v2 v3 v4 v5 v6 : Option Value} {x : Nat} : AW d 300 690 [some (.ref x), v1, v2, v3, v4, v5, v6] st h Q ↔ AW d 300 691 [some (.ref x), v1, v2, v3, v4, v5, v6] (.ref x :: st) h Q := w_st rfl rfl rfl rfl rfl
set_option maxRecDepth 20000 in
theorem s300_691 {d : Nat} {st : List Value} {h : aM} {Q : Option Value → aM → Prop} {v0 v1 v2 v3 v5 v6 : Option Value} {x : Int32} : AW d 300 691 [v0, v1, v2, v3, some (.int x), v5, v6] st h Q ↔ AW d 300 693 [v0, v1, v2, v3, some (.int x), v5, v6] (.int x :: st) h Q := w_st rfl rfl rfl rfl rfl
set_option maxRecDepth 20000 in
theorem s300_693 {d : Nat} {st : List Value} {h : aM} {Q : Option Value → aM → Prop} {lv : aV} : AW d 300 693 lv st h Q ↔ AW d 300 694 lv (.int 1 :: st) h Q := w_st rfl rfl rfl rfl rfl
set_option maxRecDepth 20000 in
theorem s300_694 {d : Nat} {st : List Value} {h : aM} {Q : Option Value → aM → Prop} {lv : aV} {x y : Int32} : AW d 300 694 lv (.int y :: .int x :: st) h Q ↔ AW d 300 695 lv (.int (x + y) :: st) h Q := w_st rfl rfl rfl rfl rfl
set_option maxRecDepth 20000 in
theorem s300_695 {d : Nat} {st : List Value} {h : aM} {Q : Option Value → aM → Prop} {lv : aV} {a : Nat} {i : Int32} : AW d 300 695 lv (.int i :: .ref a :: st) h Q ↔ inA h a 100 i ∧ AW d 300 696 lv (.int (gi h a i.toNatClampNeg) :: st) h Q := w_ite rfl rfl rfl rfl rfl aArr_iff
set_option maxRecDepth 20000 in
theorem s300_696 {d : Nat} {st : List Value} {h : aM} {Q : Option Value → aM → Prop} {lv : aV} {x : Int32} : AW d 300 696 lv (.int x :: st) h Q ↔ if x = 0 then AW d 300 703 lv st h Q else AW d 300 699 lv st h Q := w_if rfl rfl rfl rfl rfl c0_eq
set_option maxRecDepth 20000 in
theorem s300_699 {d : Nat} {st : List Value} {h : aM} {Q : Option Value → aM → Prop} {lv : aV} : AW d 300 699 lv st h Q ↔ AW d 300 700 lv (.int 1 :: st) h Q := w_st rfl rfl rfl rfl rfl
set_option maxRecDepth 20000 in
theorem s300_700 {d : Nat} {st : List Value} {h : aM} {Q : Option Value → aM → Prop} {lv : aV} : AW d 300 700 lv st h Q ↔ AW d 300 704 lv st h Q := w_st rfl rfl rfl rfl rfl
set_option maxRecDepth 20000 in
theorem s300_703 {d : Nat} {st : List Value} {h : aM} {Q : Option Value → aM → Prop} {lv : aV} : AW d 300 703 lv st h Q ↔ AW d 300 704 lv (.int 0 :: st) h Q := w_st rfl rfl rfl rfl rfl
set_option maxRecDepth 20000 in
theorem s300_704 {d : Nat} {st : List Value} {h : aM} {Q : Option Value → aM → Prop} {lv : aV} {a : Nat} {x0 : Int32} : AW (d + 1) 300 704 lv (.int x0 :: .ref a :: st) h Q ↔ (sh h a = some (11, 50) ∧ cs st ≤ 8) ∧ AW d 227 0 [some (.ref a), some (.int x0), none] [] h (fun v h => AW (d + 1) 300 707 lv (v.toList ++ st) h Q) := w_c (k := 300) (pc := 704) (pc' := 707) (as := [.ref a, .int x0]) (st := st) (st' := (.int x0 :: .ref a :: st)) (lv' := [some (.ref a), some (.int x0), none]) (h := h) (r3 := 11) rfl rfl rfl mi227 rfl rfl (Nat.le_of_ble_eq_true rfl) (rc_v rfl) rfl rfl
set_option maxRecDepth 20000 in
theorem s300_707 {d : Nat} {st : List Value} {h : aM} {Q : Option Value → aM → Prop} {lv : aV} {x y : Int32} : AW d 300 707 lv (.int y :: .int x :: st) h Q ↔ if x = y then AW d 300 1703 lv st h Q else AW d 300 710 lv st h Q := w_if rfl rfl rfl rfl rfl c2_eq
set_option maxRecDepth 20000 in
theorem s300_710 {d : Nat} {st : List Value} {h : aM} {Q : Option Value → aM → Prop} {lv : aV} : AW d 300 710 lv st h Q ↔ AW d 300 711 lv (.int 0 :: st) h Q := w_st rfl rfl rfl rfl rfl
set_option maxRecDepth 20000 in
theorem s300_711 {d : Nat} {h : aM} {Q : Option Value → aM → Prop} {lv : aV} {x : Int32} : AW d 300 711 lv [.int x] h Q ↔ narrow .boolean (.int x) = .int x ∧ Q (some (.int x)) h := w_rz rfl rfl
set_option maxRecDepth 20000 in
theorem s300_712 {d : Nat} {st : List Value} {h : aM} {Q : Option Value → aM → Prop} {v0 v2 v3 v4 v5 v6 : Option Value} {x : Nat} : AW d 300 712 [v0, some (.ref x), v2, v3, v4, v5, v6] st h Q ↔ AW d 300 713 [v0, some (.ref x), v2, v3, v4, v5, v6] (.ref x :: st) h Q := w_st rfl rfl rfl rfl rfl
set_option maxRecDepth 20000 in
theorem s300_713 {d : Nat} {st : List Value} {h : aM} {Q : Option Value → aM → Prop} {v1 v2 v3 v4 v5 v6 : Option Value} {x : Nat} : AW d 300 713 [some (.ref x), v1, v2, v3, v4, v5, v6] st h Q ↔ AW d 300 714 [some (.ref x), v1, v2, v3, v4, v5, v6] (.ref x :: st) h Q := w_st rfl rfl rfl rfl rfl
set_option maxRecDepth 20000 in
theorem s300_714 {d : Nat} {st : List Value} {h : aM} {Q : Option Value → aM → Prop} {v0 v1 v2 v3 v5 v6 : Option Value} {x : Int32} : AW d 300 714 [v0, v1, v2, v3, some (.int x), v5, v6] st h Q ↔ AW d 300 716 [v0, v1, v2, v3, some (.int x), v5, v6] (.int x :: st) h Q := w_st rfl rfl rfl rfl rfl
set_option maxRecDepth 20000 in
theorem s300_716 {d : Nat} {st : List Value} {h : aM} {Q : Option Value → aM → Prop} {lv : aV} : AW d 300 716 lv st h Q ↔ AW d 300 717 lv (.int 1 :: st) h Q := w_st rfl rfl rfl rfl rfl
set_option maxRecDepth 20000 in
theorem s300_717 {d : Nat} {st : List Value} {h : aM} {Q : Option Value → aM → Prop} {lv : aV} {x y : Int32} : AW d 300 717 lv (.int y :: .int x :: st) h Q ↔ AW d 300 718 lv (.int (x + y) :: st) h Q := w_st rfl rfl rfl rfl rfl
set_option maxRecDepth 20000 in
theorem s300_718 {d : Nat} {st : List Value} {h : aM} {Q : Option Value → aM → Prop} {lv : aV} {a : Nat} {i : Int32} : AW d 300 718 lv (.int i :: .ref a :: st) h Q ↔ inA h a 100 i ∧ AW d 300 719 lv (.int (gi h a i.toNatClampNeg) :: st) h Q := w_ite rfl rfl rfl rfl rfl aArr_iff
set_option maxRecDepth 20000 in
theorem s300_719 {d : Nat} {st : List Value} {h : aM} {Q : Option Value → aM → Prop} {lv : aV} {a : Nat} {x0 : Int32} : AW (d + 1) 300 719 lv (.int x0 :: .ref a :: st) h Q ↔ (sh h a = some (10, 19) ∧ cs st ≤ 8) ∧ AW d 111 0 [some (.ref a), some (.int x0)] [] h (fun v h => AW (d + 1) 300 722 lv (v.toList ++ st) h Q) := w_c (k := 300) (pc := 719) (pc' := 722) (as := [.ref a, .int x0]) (st := st) (st' := (.int x0 :: .ref a :: st)) (lv' := [some (.ref a), some (.int x0)]) (h := h) (r3 := 10) rfl rfl rfl mi111 rfl rfl (Nat.le_of_ble_eq_true rfl) (rc_v rfl) rfl rfl
set_option maxRecDepth 20000 in
theorem s300_722 {d : Nat} {st : List Value} {h : aM} {Q : Option Value → aM → Prop} {v0 v1 v3 v4 v5 v6 : Option Value} {x : Nat} : AW d 300 722 [v0, v1, some (.ref x), v3, v4, v5, v6] st h Q ↔ AW d 300 723 [v0, v1, some (.ref x), v3, v4, v5, v6] (.ref x :: st) h Q := w_st rfl rfl rfl rfl rfl
set_option maxRecDepth 20000 in
theorem s300_723 {d : Nat} {st : List Value} {h : aM} {Q : Option Value → aM → Prop} {v1 v2 v3 v4 v5 v6 : Option Value} {x : Nat} : AW d 300 723 [some (.ref x), v1, v2, v3, v4, v5, v6] st h Q ↔ AW d 300 724 [some (.ref x), v1, v2, v3, v4, v5, v6] (.ref x :: st) h Q := w_st rfl rfl rfl rfl rfl
set_option maxRecDepth 20000 in
theorem s300_724 {d : Nat} {st : List Value} {h : aM} {Q : Option Value → aM → Prop} {v0 v1 v2 v3 v5 v6 : Option Value} {x : Int32} : AW d 300 724 [v0, v1, v2, v3, some (.int x), v5, v6] st h Q ↔ AW d 300 726 [v0, v1, v2, v3, some (.int x), v5, v6] (.int x :: st) h Q := w_st rfl rfl rfl rfl rfl
set_option maxRecDepth 20000 in
theorem s300_726 {d : Nat} {st : List Value} {h : aM} {Q : Option Value → aM → Prop} {lv : aV} : AW d 300 726 lv st h Q ↔ AW d 300 727 lv (.int 1 :: st) h Q := w_st rfl rfl rfl rfl rfl
set_option maxRecDepth 20000 in
theorem s300_727 {d : Nat} {st : List Value} {h : aM} {Q : Option Value → aM → Prop} {lv : aV} {x y : Int32} : AW d 300 727 lv (.int y :: .int x :: st) h Q ↔ AW d 300 728 lv (.int (x + y) :: st) h Q := w_st rfl rfl rfl rfl rfl
set_option maxRecDepth 20000 in
theorem s300_728 {d : Nat} {st : List Value} {h : aM} {Q : Option Value → aM → Prop} {lv : aV} {a : Nat} {i : Int32} : AW d 300 728 lv (.int i :: .ref a :: st) h Q ↔ inA h a 100 i ∧ AW d 300 729 lv (.int (gi h a i.toNatClampNeg) :: st) h Q := w_ite rfl rfl rfl rfl rfl aArr_iff
set_option maxRecDepth 20000 in
theorem s300_729 {d : Nat} {st : List Value} {h : aM} {Q : Option Value → aM → Prop} {lv : aV} {a : Nat} {x0 : Int32} : AW (d + 1) 300 729 lv (.int x0 :: .ref a :: st) h Q ↔ (sh h a = some (11, 50) ∧ cs st ≤ 8) ∧ AW d 228 0 [some (.ref a), some (.int x0)] [] h (fun v h => AW (d + 1) 300 732 lv (v.toList ++ st) h Q) := w_c (k := 300) (pc := 729) (pc' := 732) (as := [.ref a, .int x0]) (st := st) (st' := (.int x0 :: .ref a :: st)) (lv' := [some (.ref a), some (.int x0)]) (h := h) (r3 := 11) rfl rfl rfl mi228 rfl rfl (Nat.le_of_ble_eq_true rfl) (rc_v rfl) rfl rfl
set_option maxRecDepth 20000 in
theorem s300_732 {d : Nat} {st : List Value} {h : aM} {Q : Option Value → aM → Prop} {lv : aV} {x y : Int32} : AW d 300 732 lv (.int y :: .int x :: st) h Q ↔ if x = y then AW d 300 1703 lv st h Q else AW d 300 735 lv st h Q := w_if rfl rfl rfl rfl rfl c2_eq
set_option maxRecDepth 20000 in
theorem s300_735 {d : Nat} {st : List Value} {h : aM} {Q : Option Value → aM → Prop} {lv : aV} : AW d 300 735 lv st h Q ↔ AW d 300 736 lv (.int 0 :: st) h Q := w_st rfl rfl rfl rfl rfl
set_option maxRecDepth 20000 in
theorem s300_736 {d : Nat} {h : aM} {Q : Option Value → aM → Prop} {lv : aV} {x : Int32} : AW d 300 736 lv [.int x] h Q ↔ narrow .boolean (.int x) = .int x ∧ Q (some (.int x)) h := w_rz rfl rfl
set_option maxRecDepth 20000 in
theorem s300_737 {d : Nat} {st : List Value} {h : aM} {Q : Option Value → aM → Prop} {v0 v2 v3 v4 v5 v6 : Option Value} {x : Nat} : AW d 300 737 [v0, some (.ref x), v2, v3, v4, v5, v6] st h Q ↔ AW d 300 738 [v0, some (.ref x), v2, v3, v4, v5, v6] (.ref x :: st) h Q := w_st rfl rfl rfl rfl rfl
set_option maxRecDepth 20000 in
theorem s300_738 {d : Nat} {st : List Value} {h : aM} {Q : Option Value → aM → Prop} {v1 v2 v3 v4 v5 v6 : Option Value} {x : Nat} : AW d 300 738 [some (.ref x), v1, v2, v3, v4, v5, v6] st h Q ↔ AW d 300 739 [some (.ref x), v1, v2, v3, v4, v5, v6] (.ref x :: st) h Q := w_st rfl rfl rfl rfl rfl
set_option maxRecDepth 20000 in
theorem s300_739 {d : Nat} {st : List Value} {h : aM} {Q : Option Value → aM → Prop} {v0 v1 v2 v3 v5 v6 : Option Value} {x : Int32} : AW d 300 739 [v0, v1, v2, v3, some (.int x), v5, v6] st h Q ↔ AW d 300 741 [v0, v1, v2, v3, some (.int x), v5, v6] (.int x :: st) h Q := w_st rfl rfl rfl rfl rfl
set_option maxRecDepth 20000 in
theorem s300_741 {d : Nat} {st : List Value} {h : aM} {Q : Option Value → aM → Prop} {lv : aV} : AW d 300 741 lv st h Q ↔ AW d 300 742 lv (.int 1 :: st) h Q := w_st rfl rfl rfl rfl rfl
set_option maxRecDepth 20000 in
theorem s300_742 {d : Nat} {st : List Value} {h : aM} {Q : Option Value → aM → Prop} {lv : aV} {x y : Int32} : AW d 300 742 lv (.int y :: .int x :: st) h Q ↔ AW d 300 743 lv (.int (x + y) :: st) h Q := w_st rfl rfl rfl rfl rfl
set_option maxRecDepth 20000 in
theorem s300_743 {d : Nat} {st : List Value} {h : aM} {Q : Option Value → aM → Prop} {lv : aV} {a : Nat} {i : Int32} : AW d 300 743 lv (.int i :: .ref a :: st) h Q ↔ inA h a 100 i ∧ AW d 300 744 lv (.int (gi h a i.toNatClampNeg) :: st) h Q := w_ite rfl rfl rfl rfl rfl aArr_iff
set_option maxRecDepth 20000 in
theorem s300_744 {d : Nat} {st : List Value} {h : aM} {Q : Option Value → aM → Prop} {lv : aV} {a : Nat} {x0 : Int32} : AW (d + 1) 300 744 lv (.int x0 :: .ref a :: st) h Q ↔ (sh h a = some (10, 19) ∧ cs st ≤ 8) ∧ AW d 112 0 [some (.ref a), some (.int x0), none] [] h (fun v h => AW (d + 1) 300 747 lv (v.toList ++ st) h Q) := w_c (k := 300) (pc := 744) (pc' := 747) (as := [.ref a, .int x0]) (st := st) (st' := (.int x0 :: .ref a :: st)) (lv' := [some (.ref a), some (.int x0), none]) (h := h) (r3 := 10) rfl rfl rfl mi112 rfl rfl (Nat.le_of_ble_eq_true rfl) (rc_v rfl) rfl rfl
set_option maxRecDepth 20000 in
theorem s300_747 {d : Nat} {st : List Value} {h : aM} {Q : Option Value → aM → Prop} {v0 v1 v3 v4 v5 v6 : Option Value} {x : Nat} : AW d 300 747 [v0, v1, some (.ref x), v3, v4, v5, v6] st h Q ↔ AW d 300 748 [v0, v1, some (.ref x), v3, v4, v5, v6] (.ref x :: st) h Q := w_st rfl rfl rfl rfl rfl
set_option maxRecDepth 20000 in
theorem s300_748 {d : Nat} {st : List Value} {h : aM} {Q : Option Value → aM → Prop} {v1 v2 v3 v4 v5 v6 : Option Value} {x : Nat} : AW d 300 748 [some (.ref x), v1, v2, v3, v4, v5, v6] st h Q ↔ AW d 300 749 [some (.ref x), v1, v2, v3, v4, v5, v6] (.ref x :: st) h Q := w_st rfl rfl rfl rfl rfl
set_option maxRecDepth 20000 in
theorem s300_749 {d : Nat} {st : List Value} {h : aM} {Q : Option Value → aM → Prop} {v0 v1 v2 v3 v5 v6 : Option Value} {x : Int32} : AW d 300 749 [v0, v1, v2, v3, some (.int x), v5, v6] st h Q ↔ AW d 300 751 [v0, v1, v2, v3, some (.int x), v5, v6] (.int x :: st) h Q := w_st rfl rfl rfl rfl rfl
set_option maxRecDepth 20000 in
theorem s300_751 {d : Nat} {st : List Value} {h : aM} {Q : Option Value → aM → Prop} {lv : aV} : AW d 300 751 lv st h Q ↔ AW d 300 752 lv (.int 1 :: st) h Q := w_st rfl rfl rfl rfl rfl
set_option maxRecDepth 20000 in
theorem s300_752 {d : Nat} {st : List Value} {h : aM} {Q : Option Value → aM → Prop} {lv : aV} {x y : Int32} : AW d 300 752 lv (.int y :: .int x :: st) h Q ↔ AW d 300 753 lv (.int (x + y) :: st) h Q := w_st rfl rfl rfl rfl rfl
set_option maxRecDepth 20000 in
theorem s300_753 {d : Nat} {st : List Value} {h : aM} {Q : Option Value → aM → Prop} {lv : aV} {a : Nat} {i : Int32} : AW d 300 753 lv (.int i :: .ref a :: st) h Q ↔ inA h a 100 i ∧ AW d 300 754 lv (.int (gi h a i.toNatClampNeg) :: st) h Q := w_ite rfl rfl rfl rfl rfl aArr_iff
set_option maxRecDepth 20000 in
theorem s300_754 {d : Nat} {st : List Value} {h : aM} {Q : Option Value → aM → Prop} {lv : aV} {a : Nat} {x0 : Int32} : AW (d + 1) 300 754 lv (.int x0 :: .ref a :: st) h Q ↔ (sh h a = some (11, 50) ∧ cs st ≤ 8) ∧ AW d 229 0 [some (.ref a), some (.int x0), none] [] h (fun v h => AW (d + 1) 300 757 lv (v.toList ++ st) h Q) := w_c (k := 300) (pc := 754) (pc' := 757) (as := [.ref a, .int x0]) (st := st) (st' := (.int x0 :: .ref a :: st)) (lv' := [some (.ref a), some (.int x0), none]) (h := h) (r3 := 11) rfl rfl rfl mi229 rfl rfl (Nat.le_of_ble_eq_true rfl) (rc_v rfl) rfl rfl
set_option maxRecDepth 20000 in
theorem s300_757 {d : Nat} {st : List Value} {h : aM} {Q : Option Value → aM → Prop} {lv : aV} {x y : Int32} : AW d 300 757 lv (.int y :: .int x :: st) h Q ↔ if x = y then AW d 300 1703 lv st h Q else AW d 300 760 lv st h Q := w_if rfl rfl rfl rfl rfl c2_eq
set_option maxRecDepth 20000 in
theorem s300_760 {d : Nat} {st : List Value} {h : aM} {Q : Option Value → aM → Prop} {lv : aV} : AW d 300 760 lv st h Q ↔ AW d 300 761 lv (.int 0 :: st) h Q := w_st rfl rfl rfl rfl rfl
set_option maxRecDepth 20000 in
theorem s300_761 {d : Nat} {h : aM} {Q : Option Value → aM → Prop} {lv : aV} {x : Int32} : AW d 300 761 lv [.int x] h Q ↔ narrow .boolean (.int x) = .int x ∧ Q (some (.int x)) h := w_rz rfl rfl
set_option maxRecDepth 20000 in
theorem s300_762 {d : Nat} {st : List Value} {h : aM} {Q : Option Value → aM → Prop} {v0 v2 v3 v4 v5 v6 : Option Value} {x : Nat} : AW d 300 762 [v0, some (.ref x), v2, v3, v4, v5, v6] st h Q ↔ AW d 300 763 [v0, some (.ref x), v2, v3, v4, v5, v6] (.ref x :: st) h Q := w_st rfl rfl rfl rfl rfl
set_option maxRecDepth 20000 in
theorem s300_763 {d : Nat} {st : List Value} {h : aM} {Q : Option Value → aM → Prop} {v1 v2 v3 v4 v5 v6 : Option Value} {x : Nat} : AW d 300 763 [some (.ref x), v1, v2, v3, v4, v5, v6] st h Q ↔ AW d 300 764 [some (.ref x), v1, v2, v3, v4, v5, v6] (.ref x :: st) h Q := w_st rfl rfl rfl rfl rfl
set_option maxRecDepth 20000 in
theorem s300_764 {d : Nat} {st : List Value} {h : aM} {Q : Option Value → aM → Prop} {v0 v1 v2 v3 v5 v6 : Option Value} {x : Int32} : AW d 300 764 [v0, v1, v2, v3, some (.int x), v5, v6] st h Q ↔ AW d 300 766 [v0, v1, v2, v3, some (.int x), v5, v6] (.int x :: st) h Q := w_st rfl rfl rfl rfl rfl
set_option maxRecDepth 20000 in
theorem s300_766 {d : Nat} {st : List Value} {h : aM} {Q : Option Value → aM → Prop} {lv : aV} : AW d 300 766 lv st h Q ↔ AW d 300 767 lv (.int 1 :: st) h Q := w_st rfl rfl rfl rfl rfl
set_option maxRecDepth 20000 in
theorem s300_767 {d : Nat} {st : List Value} {h : aM} {Q : Option Value → aM → Prop} {lv : aV} {x y : Int32} : AW d 300 767 lv (.int y :: .int x :: st) h Q ↔ AW d 300 768 lv (.int (x + y) :: st) h Q := w_st rfl rfl rfl rfl rfl
set_option maxRecDepth 20000 in
theorem s300_768 {d : Nat} {st : List Value} {h : aM} {Q : Option Value → aM → Prop} {lv : aV} {a : Nat} {i : Int32} : AW d 300 768 lv (.int i :: .ref a :: st) h Q ↔ inA h a 100 i ∧ AW d 300 769 lv (.int (gi h a i.toNatClampNeg) :: st) h Q := w_ite rfl rfl rfl rfl rfl aArr_iff
set_option maxRecDepth 20000 in
theorem s300_769 {d : Nat} {st : List Value} {h : aM} {Q : Option Value → aM → Prop} {lv : aV} {a : Nat} {x0 : Int32} : AW (d + 1) 300 769 lv (.int x0 :: .ref a :: st) h Q ↔ (sh h a = some (10, 19) ∧ cs st ≤ 8) ∧ AW d 113 0 [some (.ref a), some (.int x0), none] [] h (fun v h => AW (d + 1) 300 772 lv (v.toList ++ st) h Q) := w_c (k := 300) (pc := 769) (pc' := 772) (as := [.ref a, .int x0]) (st := st) (st' := (.int x0 :: .ref a :: st)) (lv' := [some (.ref a), some (.int x0), none]) (h := h) (r3 := 10) rfl rfl rfl mi113 rfl rfl (Nat.le_of_ble_eq_true rfl) (rc_v rfl) rfl rfl
set_option maxRecDepth 20000 in
theorem s300_772 {d : Nat} {st : List Value} {h : aM} {Q : Option Value → aM → Prop} {v0 v1 v3 v4 v5 v6 : Option Value} {x : Nat} : AW d 300 772 [v0, v1, some (.ref x), v3, v4, v5, v6] st h Q ↔ AW d 300 773 [v0, v1, some (.ref x), v3, v4, v5, v6] (.ref x :: st) h Q := w_st rfl rfl rfl rfl rfl
set_option maxRecDepth 20000 in
theorem s300_773 {d : Nat} {st : List Value} {h : aM} {Q : Option Value → aM → Prop} {v1 v2 v3 v4 v5 v6 : Option Value} {x : Nat} : AW d 300 773 [some (.ref x), v1, v2, v3, v4, v5, v6] st h Q ↔ AW d 300 774 [some (.ref x), v1, v2, v3, v4, v5, v6] (.ref x :: st) h Q := w_st rfl rfl rfl rfl rfl
set_option maxRecDepth 20000 in
theorem s300_774 {d : Nat} {st : List Value} {h : aM} {Q : Option Value → aM → Prop} {v0 v1 v2 v3 v5 v6 : Option Value} {x : Int32} : AW d 300 774 [v0, v1, v2, v3, some (.int x), v5, v6] st h Q ↔ AW d 300 776 [v0, v1, v2, v3, some (.int x), v5, v6] (.int x :: st) h Q := w_st rfl rfl rfl rfl rfl
set_option maxRecDepth 20000 in
theorem s300_776 {d : Nat} {st : List Value} {h : aM} {Q : Option Value → aM → Prop} {lv : aV} : AW d 300 776 lv st h Q ↔ AW d 300 777 lv (.int 1 :: st) h Q := w_st rfl rfl rfl rfl rfl
set_option maxRecDepth 20000 in
theorem s300_777 {d : Nat} {st : List Value} {h : aM} {Q : Option Value → aM → Prop} {lv : aV} {x y : Int32} : AW d 300 777 lv (.int y :: .int x :: st) h Q ↔ AW d 300 778 lv (.int (x + y) :: st) h Q := w_st rfl rfl rfl rfl rfl
set_option maxRecDepth 20000 in
theorem s300_778 {d : Nat} {st : List Value} {h : aM} {Q : Option Value → aM → Prop} {lv : aV} {a : Nat} {i : Int32} : AW d 300 778 lv (.int i :: .ref a :: st) h Q ↔ inA h a 100 i ∧ AW d 300 779 lv (.int (gi h a i.toNatClampNeg) :: st) h Q := w_ite rfl rfl rfl rfl rfl aArr_iff
set_option maxRecDepth 20000 in
theorem s300_779 {d : Nat} {st : List Value} {h : aM} {Q : Option Value → aM → Prop} {lv : aV} {a : Nat} {x0 : Int32} : AW (d + 1) 300 779 lv (.int x0 :: .ref a :: st) h Q ↔ (sh h a = some (11, 50) ∧ cs st ≤ 8) ∧ AW d 232 0 [some (.ref a), some (.int x0), none] [] h (fun v h => AW (d + 1) 300 782 lv (v.toList ++ st) h Q) := w_c (k := 300) (pc := 779) (pc' := 782) (as := [.ref a, .int x0]) (st := st) (st' := (.int x0 :: .ref a :: st)) (lv' := [some (.ref a), some (.int x0), none]) (h := h) (r3 := 11) rfl rfl rfl mi232 rfl rfl (Nat.le_of_ble_eq_true rfl) (rc_v rfl) rfl rfl
set_option maxRecDepth 20000 in
theorem s300_782 {d : Nat} {st : List Value} {h : aM} {Q : Option Value → aM → Prop} {lv : aV} {x y : Int32} : AW d 300 782 lv (.int y :: .int x :: st) h Q ↔ if x = y then AW d 300 1703 lv st h Q else AW d 300 785 lv st h Q := w_if rfl rfl rfl rfl rfl c2_eq
set_option maxRecDepth 20000 in
theorem s300_785 {d : Nat} {st : List Value} {h : aM} {Q : Option Value → aM → Prop} {lv : aV} : AW d 300 785 lv st h Q ↔ AW d 300 786 lv (.int 0 :: st) h Q := w_st rfl rfl rfl rfl rfl
set_option maxRecDepth 20000 in
theorem s300_786 {d : Nat} {h : aM} {Q : Option Value → aM → Prop} {lv : aV} {x : Int32} : AW d 300 786 lv [.int x] h Q ↔ narrow .boolean (.int x) = .int x ∧ Q (some (.int x)) h := w_rz rfl rfl
set_option maxRecDepth 20000 in
theorem s300_787 {d : Nat} {st : List Value} {h : aM} {Q : Option Value → aM → Prop} {v0 v2 v3 v4 v5 v6 : Option Value} {x : Nat} : AW d 300 787 [v0, some (.ref x), v2, v3, v4, v5, v6] st h Q ↔ AW d 300 788 [v0, some (.ref x), v2, v3, v4, v5, v6] (.ref x :: st) h Q := w_st rfl rfl rfl rfl rfl
set_option maxRecDepth 20000 in
theorem s300_788 {d : Nat} {st : List Value} {h : aM} {Q : Option Value → aM → Prop} {v1 v2 v3 v4 v5 v6 : Option Value} {x : Nat} : AW d 300 788 [some (.ref x), v1, v2, v3, v4, v5, v6] st h Q ↔ AW d 300 789 [some (.ref x), v1, v2, v3, v4, v5, v6] (.ref x :: st) h Q := w_st rfl rfl rfl rfl rfl
set_option maxRecDepth 20000 in
theorem s300_789 {d : Nat} {st : List Value} {h : aM} {Q : Option Value → aM → Prop} {v0 v1 v2 v3 v5 v6 : Option Value} {x : Int32} : AW d 300 789 [v0, v1, v2, v3, some (.int x), v5, v6] st h Q ↔ AW d 300 791 [v0, v1, v2, v3, some (.int x), v5, v6] (.int x :: st) h Q := w_st rfl rfl rfl rfl rfl
set_option maxRecDepth 20000 in
theorem s300_791 {d : Nat} {st : List Value} {h : aM} {Q : Option Value → aM → Prop} {lv : aV} : AW d 300 791 lv st h Q ↔ AW d 300 792 lv (.int 1 :: st) h Q := w_st rfl rfl rfl rfl rfl
set_option maxRecDepth 20000 in
theorem s300_792 {d : Nat} {st : List Value} {h : aM} {Q : Option Value → aM → Prop} {lv : aV} {x y : Int32} : AW d 300 792 lv (.int y :: .int x :: st) h Q ↔ AW d 300 793 lv (.int (x + y) :: st) h Q := w_st rfl rfl rfl rfl rfl
set_option maxRecDepth 20000 in
theorem s300_793 {d : Nat} {st : List Value} {h : aM} {Q : Option Value → aM → Prop} {lv : aV} {a : Nat} {i : Int32} : AW d 300 793 lv (.int i :: .ref a :: st) h Q ↔ inA h a 100 i ∧ AW d 300 794 lv (.int (gi h a i.toNatClampNeg) :: st) h Q := w_ite rfl rfl rfl rfl rfl aArr_iff
set_option maxRecDepth 20000 in
theorem s300_794 {d : Nat} {st : List Value} {h : aM} {Q : Option Value → aM → Prop} {lv : aV} {a : Nat} {x0 : Int32} : AW (d + 1) 300 794 lv (.int x0 :: .ref a :: st) h Q ↔ (sh h a = some (10, 19) ∧ cs st ≤ 8) ∧ AW d 114 0 [some (.ref a), some (.int x0)] [] h (fun v h => AW (d + 1) 300 797 lv (v.toList ++ st) h Q) := w_c (k := 300) (pc := 794) (pc' := 797) (as := [.ref a, .int x0]) (st := st) (st' := (.int x0 :: .ref a :: st)) (lv' := [some (.ref a), some (.int x0)]) (h := h) (r3 := 10) rfl rfl rfl mi114 rfl rfl (Nat.le_of_ble_eq_true rfl) (rc_v rfl) rfl rfl
set_option maxRecDepth 20000 in
theorem s300_797 {d : Nat} {st : List Value} {h : aM} {Q : Option Value → aM → Prop} {v0 v1 v3 v4 v5 v6 : Option Value} {x : Nat} : AW d 300 797 [v0, v1, some (.ref x), v3, v4, v5, v6] st h Q ↔ AW d 300 798 [v0, v1, some (.ref x), v3, v4, v5, v6] (.ref x :: st) h Q := w_st rfl rfl rfl rfl rfl
set_option maxRecDepth 20000 in
theorem s300_798 {d : Nat} {st : List Value} {h : aM} {Q : Option Value → aM → Prop} {v1 v2 v3 v4 v5 v6 : Option Value} {x : Nat} : AW d 300 798 [some (.ref x), v1, v2, v3, v4, v5, v6] st h Q ↔ AW d 300 799 [some (.ref x), v1, v2, v3, v4, v5, v6] (.ref x :: st) h Q := w_st rfl rfl rfl rfl rfl
set_option maxRecDepth 20000 in
theorem s300_799 {d : Nat} {st : List Value} {h : aM} {Q : Option Value → aM → Prop} {v0 v1 v2 v3 v5 v6 : Option Value} {x : Int32} : AW d 300 799 [v0, v1, v2, v3, some (.int x), v5, v6] st h Q ↔ AW d 300 801 [v0, v1, v2, v3, some (.int x), v5, v6] (.int x :: st) h Q := w_st rfl rfl rfl rfl rfl
set_option maxRecDepth 20000 in
theorem s300_801 {d : Nat} {st : List Value} {h : aM} {Q : Option Value → aM → Prop} {lv : aV} : AW d 300 801 lv st h Q ↔ AW d 300 802 lv (.int 1 :: st) h Q := w_st rfl rfl rfl rfl rfl
set_option maxRecDepth 20000 in
theorem s300_802 {d : Nat} {st : List Value} {h : aM} {Q : Option Value → aM → Prop} {lv : aV} {x y : Int32} : AW d 300 802 lv (.int y :: .int x :: st) h Q ↔ AW d 300 803 lv (.int (x + y) :: st) h Q := w_st rfl rfl rfl rfl rfl
set_option maxRecDepth 20000 in
theorem s300_803 {d : Nat} {st : List Value} {h : aM} {Q : Option Value → aM → Prop} {lv : aV} {a : Nat} {i : Int32} : AW d 300 803 lv (.int i :: .ref a :: st) h Q ↔ inA h a 100 i ∧ AW d 300 804 lv (.int (gi h a i.toNatClampNeg) :: st) h Q := w_ite rfl rfl rfl rfl rfl aArr_iff
set_option maxRecDepth 20000 in
theorem s300_804 {d : Nat} {st : List Value} {h : aM} {Q : Option Value → aM → Prop} {lv : aV} {a : Nat} {x0 : Int32} : AW (d + 1) 300 804 lv (.int x0 :: .ref a :: st) h Q ↔ (sh h a = some (11, 50) ∧ cs st ≤ 8) ∧ AW d 233 0 [some (.ref a), some (.int x0)] [] h (fun v h => AW (d + 1) 300 807 lv (v.toList ++ st) h Q) := w_c (k := 300) (pc := 804) (pc' := 807) (as := [.ref a, .int x0]) (st := st) (st' := (.int x0 :: .ref a :: st)) (lv' := [some (.ref a), some (.int x0)]) (h := h) (r3 := 11) rfl rfl rfl mi233 rfl rfl (Nat.le_of_ble_eq_true rfl) (rc_v rfl) rfl rfl
set_option maxRecDepth 20000 in
theorem s300_807 {d : Nat} {st : List Value} {h : aM} {Q : Option Value → aM → Prop} {lv : aV} {x y : Int32} : AW d 300 807 lv (.int y :: .int x :: st) h Q ↔ if x = y then AW d 300 1703 lv st h Q else AW d 300 810 lv st h Q := w_if rfl rfl rfl rfl rfl c2_eq
set_option maxRecDepth 20000 in
theorem s300_810 {d : Nat} {st : List Value} {h : aM} {Q : Option Value → aM → Prop} {lv : aV} : AW d 300 810 lv st h Q ↔ AW d 300 811 lv (.int 0 :: st) h Q := w_st rfl rfl rfl rfl rfl
set_option maxRecDepth 20000 in
theorem s300_811 {d : Nat} {h : aM} {Q : Option Value → aM → Prop} {lv : aV} {x : Int32} : AW d 300 811 lv [.int x] h Q ↔ narrow .boolean (.int x) = .int x ∧ Q (some (.int x)) h := w_rz rfl rfl
set_option maxRecDepth 20000 in
theorem s300_812 {d : Nat} {st : List Value} {h : aM} {Q : Option Value → aM → Prop} {v0 v2 v3 v4 v5 v6 : Option Value} {x : Nat} : AW d 300 812 [v0, some (.ref x), v2, v3, v4, v5, v6] st h Q ↔ AW d 300 813 [v0, some (.ref x), v2, v3, v4, v5, v6] (.ref x :: st) h Q := w_st rfl rfl rfl rfl rfl
set_option maxRecDepth 20000 in
theorem s300_813 {d : Nat} {st : List Value} {h : aM} {Q : Option Value → aM → Prop} {v1 v2 v3 v4 v5 v6 : Option Value} {x : Nat} : AW d 300 813 [some (.ref x), v1, v2, v3, v4, v5, v6] st h Q ↔ AW d 300 814 [some (.ref x), v1, v2, v3, v4, v5, v6] (.ref x :: st) h Q := w_st rfl rfl rfl rfl rfl
set_option maxRecDepth 20000 in
theorem s300_814 {d : Nat} {st : List Value} {h : aM} {Q : Option Value → aM → Prop} {v0 v1 v2 v3 v5 v6 : Option Value} {x : Int32} : AW d 300 814 [v0, v1, v2, v3, some (.int x), v5, v6] st h Q ↔ AW d 300 816 [v0, v1, v2, v3, some (.int x), v5, v6] (.int x :: st) h Q := w_st rfl rfl rfl rfl rfl
set_option maxRecDepth 20000 in
theorem s300_816 {d : Nat} {st : List Value} {h : aM} {Q : Option Value → aM → Prop} {lv : aV} : AW d 300 816 lv st h Q ↔ AW d 300 817 lv (.int 1 :: st) h Q := w_st rfl rfl rfl rfl rfl
set_option maxRecDepth 20000 in
theorem s300_817 {d : Nat} {st : List Value} {h : aM} {Q : Option Value → aM → Prop} {lv : aV} {x y : Int32} : AW d 300 817 lv (.int y :: .int x :: st) h Q ↔ AW d 300 818 lv (.int (x + y) :: st) h Q := w_st rfl rfl rfl rfl rfl
set_option maxRecDepth 20000 in
theorem s300_818 {d : Nat} {st : List Value} {h : aM} {Q : Option Value → aM → Prop} {lv : aV} {a : Nat} {i : Int32} : AW d 300 818 lv (.int i :: .ref a :: st) h Q ↔ inA h a 100 i ∧ AW d 300 819 lv (.int (gi h a i.toNatClampNeg) :: st) h Q := w_ite rfl rfl rfl rfl rfl aArr_iff
set_option maxRecDepth 20000 in
theorem s300_819 {d : Nat} {st : List Value} {h : aM} {Q : Option Value → aM → Prop} {v1 v2 v3 v4 v5 v6 : Option Value} {x : Nat} : AW d 300 819 [some (.ref x), v1, v2, v3, v4, v5, v6] st h Q ↔ AW d 300 820 [some (.ref x), v1, v2, v3, v4, v5, v6] (.ref x :: st) h Q := w_st rfl rfl rfl rfl rfl
set_option maxRecDepth 20000 in
theorem s300_820 {d : Nat} {st : List Value} {h : aM} {Q : Option Value → aM → Prop} {v0 v1 v2 v3 v5 v6 : Option Value} {x : Int32} : AW d 300 820 [v0, v1, v2, v3, some (.int x), v5, v6] st h Q ↔ AW d 300 822 [v0, v1, v2, v3, some (.int x), v5, v6] (.int x :: st) h Q := w_st rfl rfl rfl rfl rfl
set_option maxRecDepth 20000 in
theorem s300_822 {d : Nat} {st : List Value} {h : aM} {Q : Option Value → aM → Prop} {lv : aV} : AW d 300 822 lv st h Q ↔ AW d 300 823 lv (.int 2 :: st) h Q := w_st rfl rfl rfl rfl rfl
set_option maxRecDepth 20000 in
theorem s300_823 {d : Nat} {st : List Value} {h : aM} {Q : Option Value → aM → Prop} {lv : aV} {x y : Int32} : AW d 300 823 lv (.int y :: .int x :: st) h Q ↔ AW d 300 824 lv (.int (x + y) :: st) h Q := w_st rfl rfl rfl rfl rfl
set_option maxRecDepth 20000 in
theorem s300_824 {d : Nat} {st : List Value} {h : aM} {Q : Option Value → aM → Prop} {lv : aV} {a : Nat} {i : Int32} : AW d 300 824 lv (.int i :: .ref a :: st) h Q ↔ inA h a 100 i ∧ AW d 300 825 lv (.int (gi h a i.toNatClampNeg) :: st) h Q := w_ite rfl rfl rfl rfl rfl aArr_iff
set_option maxRecDepth 20000 in
theorem s300_825 {d : Nat} {st : List Value} {h : aM} {Q : Option Value → aM → Prop} {lv : aV} {x : Int32} : AW d 300 825 lv (.int x :: st) h Q ↔ AW d 300 826 lv (.long x.toInt64 :: st) h Q := w_st rfl rfl rfl rfl rfl
set_option maxRecDepth 20000 in
theorem s300_826 {d : Nat} {st : List Value} {h : aM} {Q : Option Value → aM → Prop} {lv : aV} : AW d 300 826 lv st h Q ↔ AW d 300 828 lv (.int 32 :: st) h Q := w_st rfl rfl rfl rfl rfl
set_option maxRecDepth 20000 in
theorem s300_828 {d : Nat} {st : List Value} {h : aM} {Q : Option Value → aM → Prop} {lv : aV} {x : Int64} {y : Int32} : AW d 300 828 lv (.int y :: .long x :: st) h Q ↔ AW d 300 829 lv (.long (x <<< (y.toInt64 &&& 63)) :: st) h Q := w_st rfl rfl rfl rfl rfl
set_option maxRecDepth 20000 in
theorem s300_829 {d : Nat} {st : List Value} {h : aM} {Q : Option Value → aM → Prop} {v1 v2 v3 v4 v5 v6 : Option Value} {x : Nat} : AW d 300 829 [some (.ref x), v1, v2, v3, v4, v5, v6] st h Q ↔ AW d 300 830 [some (.ref x), v1, v2, v3, v4, v5, v6] (.ref x :: st) h Q := w_st rfl rfl rfl rfl rfl
set_option maxRecDepth 20000 in
theorem s300_830 {d : Nat} {st : List Value} {h : aM} {Q : Option Value → aM → Prop} {v0 v1 v2 v3 v5 v6 : Option Value} {x : Int32} : AW d 300 830 [v0, v1, v2, v3, some (.int x), v5, v6] st h Q ↔ AW d 300 832 [v0, v1, v2, v3, some (.int x), v5, v6] (.int x :: st) h Q := w_st rfl rfl rfl rfl rfl
set_option maxRecDepth 20000 in
theorem s300_832 {d : Nat} {st : List Value} {h : aM} {Q : Option Value → aM → Prop} {lv : aV} : AW d 300 832 lv st h Q ↔ AW d 300 833 lv (.int 3 :: st) h Q := w_st rfl rfl rfl rfl rfl
set_option maxRecDepth 20000 in
theorem s300_833 {d : Nat} {st : List Value} {h : aM} {Q : Option Value → aM → Prop} {lv : aV} {x y : Int32} : AW d 300 833 lv (.int y :: .int x :: st) h Q ↔ AW d 300 834 lv (.int (x + y) :: st) h Q := w_st rfl rfl rfl rfl rfl
set_option maxRecDepth 20000 in
theorem s300_834 {d : Nat} {st : List Value} {h : aM} {Q : Option Value → aM → Prop} {lv : aV} {a : Nat} {i : Int32} : AW d 300 834 lv (.int i :: .ref a :: st) h Q ↔ inA h a 100 i ∧ AW d 300 835 lv (.int (gi h a i.toNatClampNeg) :: st) h Q := w_ite rfl rfl rfl rfl rfl aArr_iff
set_option maxRecDepth 20000 in
theorem s300_835 {d : Nat} {st : List Value} {h : aM} {Q : Option Value → aM → Prop} {lv : aV} {x : Int32} : AW d 300 835 lv (.int x :: st) h Q ↔ AW d 300 836 lv (.long x.toInt64 :: st) h Q := w_st rfl rfl rfl rfl rfl
set_option maxRecDepth 20000 in
theorem s300_836 {d : Nat} {st : List Value} {h : aM} {Q : Option Value → aM → Prop} {lv : aV} : AW d 300 836 lv st h Q ↔ AW d 300 839 lv (.long 4294967295 :: st) h Q := w_st rfl rfl rfl rfl rfl
set_option maxRecDepth 20000 in
theorem s300_839 {d : Nat} {st : List Value} {h : aM} {Q : Option Value → aM → Prop} {lv : aV} {x y : Int64} : AW d 300 839 lv (.long y :: .long x :: st) h Q ↔ AW d 300 840 lv (.long (x &&& y) :: st) h Q := w_st rfl rfl rfl rfl rfl
set_option maxRecDepth 20000 in
theorem s300_840 {d : Nat} {st : List Value} {h : aM} {Q : Option Value → aM → Prop} {lv : aV} {x y : Int64} : AW d 300 840 lv (.long y :: .long x :: st) h Q ↔ AW d 300 841 lv (.long (x ||| y) :: st) h Q := w_st rfl rfl rfl rfl rfl
set_option maxRecDepth 20000 in
theorem s300_841 {d : Nat} {st : List Value} {h : aM} {Q : Option Value → aM → Prop} {lv : aV} {a : Nat} {x0 : Int32} {x1 : Int64} : AW (d + 1) 300 841 lv (.long x1 :: .int x0 :: .ref a :: st) h Q ↔ (sh h a = some (10, 19) ∧ cs st ≤ 8) ∧ AW d 115 0 [some (.ref a), some (.int x0), some (.long x1), none, none, none, none] [] h (fun v h => AW (d + 1) 300 844 lv (v.toList ++ st) h Q) := w_c (k := 300) (pc := 841) (pc' := 844) (as := [.ref a, .int x0, .long x1]) (st := st) (st' := (.long x1 :: .int x0 :: .ref a :: st)) (lv' := [some (.ref a), some (.int x0), some (.long x1), none, none, none, none]) (h := h) (r3 := 10) rfl rfl rfl mi115 rfl rfl (Nat.le_of_ble_eq_true rfl) (rc_v rfl) rfl rfl
set_option maxRecDepth 20000 in
theorem s300_844 {d : Nat} {st : List Value} {h : aM} {Q : Option Value → aM → Prop} {v0 v1 v3 v4 v5 v6 : Option Value} {x : Nat} : AW d 300 844 [v0, v1, some (.ref x), v3, v4, v5, v6] st h Q ↔ AW d 300 845 [v0, v1, some (.ref x), v3, v4, v5, v6] (.ref x :: st) h Q := w_st rfl rfl rfl rfl rfl
set_option maxRecDepth 20000 in
theorem s300_845 {d : Nat} {st : List Value} {h : aM} {Q : Option Value → aM → Prop} {v1 v2 v3 v4 v5 v6 : Option Value} {x : Nat} : AW d 300 845 [some (.ref x), v1, v2, v3, v4, v5, v6] st h Q ↔ AW d 300 846 [some (.ref x), v1, v2, v3, v4, v5, v6] (.ref x :: st) h Q := w_st rfl rfl rfl rfl rfl
set_option maxRecDepth 20000 in
theorem s300_846 {d : Nat} {st : List Value} {h : aM} {Q : Option Value → aM → Prop} {v0 v1 v2 v3 v5 v6 : Option Value} {x : Int32} : AW d 300 846 [v0, v1, v2, v3, some (.int x), v5, v6] st h Q ↔ AW d 300 848 [v0, v1, v2, v3, some (.int x), v5, v6] (.int x :: st) h Q := w_st rfl rfl rfl rfl rfl
set_option maxRecDepth 20000 in
theorem s300_848 {d : Nat} {st : List Value} {h : aM} {Q : Option Value → aM → Prop} {lv : aV} : AW d 300 848 lv st h Q ↔ AW d 300 849 lv (.int 1 :: st) h Q := w_st rfl rfl rfl rfl rfl
set_option maxRecDepth 20000 in
theorem s300_849 {d : Nat} {st : List Value} {h : aM} {Q : Option Value → aM → Prop} {lv : aV} {x y : Int32} : AW d 300 849 lv (.int y :: .int x :: st) h Q ↔ AW d 300 850 lv (.int (x + y) :: st) h Q := w_st rfl rfl rfl rfl rfl
set_option maxRecDepth 20000 in
theorem s300_850 {d : Nat} {st : List Value} {h : aM} {Q : Option Value → aM → Prop} {lv : aV} {a : Nat} {i : Int32} : AW d 300 850 lv (.int i :: .ref a :: st) h Q ↔ inA h a 100 i ∧ AW d 300 851 lv (.int (gi h a i.toNatClampNeg) :: st) h Q := w_ite rfl rfl rfl rfl rfl aArr_iff
set_option maxRecDepth 20000 in
theorem s300_851 {d : Nat} {st : List Value} {h : aM} {Q : Option Value → aM → Prop} {v1 v2 v3 v4 v5 v6 : Option Value} {x : Nat} : AW d 300 851 [some (.ref x), v1, v2, v3, v4, v5, v6] st h Q ↔ AW d 300 852 [some (.ref x), v1, v2, v3, v4, v5, v6] (.ref x :: st) h Q := w_st rfl rfl rfl rfl rfl
set_option maxRecDepth 20000 in
theorem s300_852 {d : Nat} {st : List Value} {h : aM} {Q : Option Value → aM → Prop} {v0 v1 v2 v3 v5 v6 : Option Value} {x : Int32} : AW d 300 852 [v0, v1, v2, v3, some (.int x), v5, v6] st h Q ↔ AW d 300 854 [v0, v1, v2, v3, some (.int x), v5, v6] (.int x :: st) h Q := w_st rfl rfl rfl rfl rfl
set_option maxRecDepth 20000 in
theorem s300_854 {d : Nat} {st : List Value} {h : aM} {Q : Option Value → aM → Prop} {lv : aV} : AW d 300 854 lv st h Q ↔ AW d 300 855 lv (.int 2 :: st) h Q := w_st rfl rfl rfl rfl rfl
set_option maxRecDepth 20000 in
theorem s300_855 {d : Nat} {st : List Value} {h : aM} {Q : Option Value → aM → Prop} {lv : aV} {x y : Int32} : AW d 300 855 lv (.int y :: .int x :: st) h Q ↔ AW d 300 856 lv (.int (x + y) :: st) h Q := w_st rfl rfl rfl rfl rfl
set_option maxRecDepth 20000 in
theorem s300_856 {d : Nat} {st : List Value} {h : aM} {Q : Option Value → aM → Prop} {lv : aV} {a : Nat} {i : Int32} : AW d 300 856 lv (.int i :: .ref a :: st) h Q ↔ inA h a 100 i ∧ AW d 300 857 lv (.int (gi h a i.toNatClampNeg) :: st) h Q := w_ite rfl rfl rfl rfl rfl aArr_iff
set_option maxRecDepth 20000 in
theorem s300_857 {d : Nat} {st : List Value} {h : aM} {Q : Option Value → aM → Prop} {lv : aV} {x : Int32} : AW d 300 857 lv (.int x :: st) h Q ↔ AW d 300 858 lv (.long x.toInt64 :: st) h Q := w_st rfl rfl rfl rfl rfl
set_option maxRecDepth 20000 in
theorem s300_858 {d : Nat} {st : List Value} {h : aM} {Q : Option Value → aM → Prop} {lv : aV} : AW d 300 858 lv st h Q ↔ AW d 300 860 lv (.int 32 :: st) h Q := w_st rfl rfl rfl rfl rfl
set_option maxRecDepth 20000 in
theorem s300_860 {d : Nat} {st : List Value} {h : aM} {Q : Option Value → aM → Prop} {lv : aV} {x : Int64} {y : Int32} : AW d 300 860 lv (.int y :: .long x :: st) h Q ↔ AW d 300 861 lv (.long (x <<< (y.toInt64 &&& 63)) :: st) h Q := w_st rfl rfl rfl rfl rfl
set_option maxRecDepth 20000 in
theorem s300_861 {d : Nat} {st : List Value} {h : aM} {Q : Option Value → aM → Prop} {v1 v2 v3 v4 v5 v6 : Option Value} {x : Nat} : AW d 300 861 [some (.ref x), v1, v2, v3, v4, v5, v6] st h Q ↔ AW d 300 862 [some (.ref x), v1, v2, v3, v4, v5, v6] (.ref x :: st) h Q := w_st rfl rfl rfl rfl rfl
set_option maxRecDepth 20000 in
theorem s300_862 {d : Nat} {st : List Value} {h : aM} {Q : Option Value → aM → Prop} {v0 v1 v2 v3 v5 v6 : Option Value} {x : Int32} : AW d 300 862 [v0, v1, v2, v3, some (.int x), v5, v6] st h Q ↔ AW d 300 864 [v0, v1, v2, v3, some (.int x), v5, v6] (.int x :: st) h Q := w_st rfl rfl rfl rfl rfl
set_option maxRecDepth 20000 in
theorem s300_864 {d : Nat} {st : List Value} {h : aM} {Q : Option Value → aM → Prop} {lv : aV} : AW d 300 864 lv st h Q ↔ AW d 300 865 lv (.int 3 :: st) h Q := w_st rfl rfl rfl rfl rfl
set_option maxRecDepth 20000 in
theorem s300_865 {d : Nat} {st : List Value} {h : aM} {Q : Option Value → aM → Prop} {lv : aV} {x y : Int32} : AW d 300 865 lv (.int y :: .int x :: st) h Q ↔ AW d 300 866 lv (.int (x + y) :: st) h Q := w_st rfl rfl rfl rfl rfl
set_option maxRecDepth 20000 in
theorem s300_866 {d : Nat} {st : List Value} {h : aM} {Q : Option Value → aM → Prop} {lv : aV} {a : Nat} {i : Int32} : AW d 300 866 lv (.int i :: .ref a :: st) h Q ↔ inA h a 100 i ∧ AW d 300 867 lv (.int (gi h a i.toNatClampNeg) :: st) h Q := w_ite rfl rfl rfl rfl rfl aArr_iff
set_option maxRecDepth 20000 in
theorem s300_867 {d : Nat} {st : List Value} {h : aM} {Q : Option Value → aM → Prop} {lv : aV} {x : Int32} : AW d 300 867 lv (.int x :: st) h Q ↔ AW d 300 868 lv (.long x.toInt64 :: st) h Q := w_st rfl rfl rfl rfl rfl
set_option maxRecDepth 20000 in
theorem s300_868 {d : Nat} {st : List Value} {h : aM} {Q : Option Value → aM → Prop} {lv : aV} : AW d 300 868 lv st h Q ↔ AW d 300 871 lv (.long 4294967295 :: st) h Q := w_st rfl rfl rfl rfl rfl
set_option maxRecDepth 20000 in
theorem s300_871 {d : Nat} {st : List Value} {h : aM} {Q : Option Value → aM → Prop} {lv : aV} {x y : Int64} : AW d 300 871 lv (.long y :: .long x :: st) h Q ↔ AW d 300 872 lv (.long (x &&& y) :: st) h Q := w_st rfl rfl rfl rfl rfl
set_option maxRecDepth 20000 in
theorem s300_872 {d : Nat} {st : List Value} {h : aM} {Q : Option Value → aM → Prop} {lv : aV} {x y : Int64} : AW d 300 872 lv (.long y :: .long x :: st) h Q ↔ AW d 300 873 lv (.long (x ||| y) :: st) h Q := w_st rfl rfl rfl rfl rfl
set_option maxRecDepth 20000 in
theorem s300_873 {d : Nat} {st : List Value} {h : aM} {Q : Option Value → aM → Prop} {lv : aV} {a : Nat} {x0 : Int32} {x1 : Int64} : AW (d + 1) 300 873 lv (.long x1 :: .int x0 :: .ref a :: st) h Q ↔ (sh h a = some (11, 50) ∧ cs st ≤ 8) ∧ AW d 235 0 [some (.ref a), some (.int x0), some (.long x1), none, none, none] [] h (fun v h => AW (d + 1) 300 876 lv (v.toList ++ st) h Q) := w_c (k := 300) (pc := 873) (pc' := 876) (as := [.ref a, .int x0, .long x1]) (st := st) (st' := (.long x1 :: .int x0 :: .ref a :: st)) (lv' := [some (.ref a), some (.int x0), some (.long x1), none, none, none]) (h := h) (r3 := 11) rfl rfl rfl mi235 rfl rfl (Nat.le_of_ble_eq_true rfl) (rc_v rfl) rfl rfl
set_option maxRecDepth 20000 in
theorem s300_876 {d : Nat} {st : List Value} {h : aM} {Q : Option Value → aM → Prop} {lv : aV} {x y : Int32} : AW d 300 876 lv (.int y :: .int x :: st) h Q ↔ if x = y then AW d 300 1703 lv st h Q else AW d 300 879 lv st h Q := w_if rfl rfl rfl rfl rfl c2_eq
set_option maxRecDepth 20000 in
theorem s300_879 {d : Nat} {st : List Value} {h : aM} {Q : Option Value → aM → Prop} {lv : aV} : AW d 300 879 lv st h Q ↔ AW d 300 880 lv (.int 0 :: st) h Q := w_st rfl rfl rfl rfl rfl
set_option maxRecDepth 20000 in
theorem s300_880 {d : Nat} {h : aM} {Q : Option Value → aM → Prop} {lv : aV} {x : Int32} : AW d 300 880 lv [.int x] h Q ↔ narrow .boolean (.int x) = .int x ∧ Q (some (.int x)) h := w_rz rfl rfl
set_option maxRecDepth 20000 in
theorem s300_881 {d : Nat} {st : List Value} {h : aM} {Q : Option Value → aM → Prop} {v0 v2 v3 v4 v5 v6 : Option Value} {x : Nat} : AW d 300 881 [v0, some (.ref x), v2, v3, v4, v5, v6] st h Q ↔ AW d 300 882 [v0, some (.ref x), v2, v3, v4, v5, v6] (.ref x :: st) h Q := w_st rfl rfl rfl rfl rfl
set_option maxRecDepth 20000 in
theorem s300_882 {d : Nat} {st : List Value} {h : aM} {Q : Option Value → aM → Prop} {v1 v2 v3 v4 v5 v6 : Option Value} {x : Nat} : AW d 300 882 [some (.ref x), v1, v2, v3, v4, v5, v6] st h Q ↔ AW d 300 883 [some (.ref x), v1, v2, v3, v4, v5, v6] (.ref x :: st) h Q := w_st rfl rfl rfl rfl rfl
set_option maxRecDepth 20000 in
theorem s300_883 {d : Nat} {st : List Value} {h : aM} {Q : Option Value → aM → Prop} {v0 v1 v2 v3 v5 v6 : Option Value} {x : Int32} : AW d 300 883 [v0, v1, v2, v3, some (.int x), v5, v6] st h Q ↔ AW d 300 885 [v0, v1, v2, v3, some (.int x), v5, v6] (.int x :: st) h Q := w_st rfl rfl rfl rfl rfl
set_option maxRecDepth 20000 in
theorem s300_885 {d : Nat} {st : List Value} {h : aM} {Q : Option Value → aM → Prop} {lv : aV} : AW d 300 885 lv st h Q ↔ AW d 300 886 lv (.int 1 :: st) h Q := w_st rfl rfl rfl rfl rfl
set_option maxRecDepth 20000 in
theorem s300_886 {d : Nat} {st : List Value} {h : aM} {Q : Option Value → aM → Prop} {lv : aV} {x y : Int32} : AW d 300 886 lv (.int y :: .int x :: st) h Q ↔ AW d 300 887 lv (.int (x + y) :: st) h Q := w_st rfl rfl rfl rfl rfl
set_option maxRecDepth 20000 in
theorem s300_887 {d : Nat} {st : List Value} {h : aM} {Q : Option Value → aM → Prop} {lv : aV} {a : Nat} {i : Int32} : AW d 300 887 lv (.int i :: .ref a :: st) h Q ↔ inA h a 100 i ∧ AW d 300 888 lv (.int (gi h a i.toNatClampNeg) :: st) h Q := w_ite rfl rfl rfl rfl rfl aArr_iff
set_option maxRecDepth 20000 in
theorem s300_888 {d : Nat} {st : List Value} {h : aM} {Q : Option Value → aM → Prop} {lv : aV} {a : Nat} {x0 : Int32} : AW (d + 1) 300 888 lv (.int x0 :: .ref a :: st) h Q ↔ (sh h a = some (10, 19) ∧ cs st ≤ 8) ∧ AW d 116 0 [some (.ref a), some (.int x0)] [] h (fun v h => AW (d + 1) 300 891 lv (v.toList ++ st) h Q) := w_c (k := 300) (pc := 888) (pc' := 891) (as := [.ref a, .int x0]) (st := st) (st' := (.int x0 :: .ref a :: st)) (lv' := [some (.ref a), some (.int x0)]) (h := h) (r3 := 10) rfl rfl rfl mi116 rfl rfl (Nat.le_of_ble_eq_true rfl) (rc_v rfl) rfl rfl
set_option maxRecDepth 20000 in
theorem s300_891 {d : Nat} {st : List Value} {h : aM} {Q : Option Value → aM → Prop} {v0 v1 v3 v4 v5 v6 : Option Value} {x : Nat} : AW d 300 891 [v0, v1, some (.ref x), v3, v4, v5, v6] st h Q ↔ AW d 300 892 [v0, v1, some (.ref x), v3, v4, v5, v6] (.ref x :: st) h Q := w_st rfl rfl rfl rfl rfl
set_option maxRecDepth 20000 in
theorem s300_892 {d : Nat} {st : List Value} {h : aM} {Q : Option Value → aM → Prop} {v1 v2 v3 v4 v5 v6 : Option Value} {x : Nat} : AW d 300 892 [some (.ref x), v1, v2, v3, v4, v5, v6] st h Q ↔ AW d 300 893 [some (.ref x), v1, v2, v3, v4, v5, v6] (.ref x :: st) h Q := w_st rfl rfl rfl rfl rfl
set_option maxRecDepth 20000 in
theorem s300_893 {d : Nat} {st : List Value} {h : aM} {Q : Option Value → aM → Prop} {v0 v1 v2 v3 v5 v6 : Option Value} {x : Int32} : AW d 300 893 [v0, v1, v2, v3, some (.int x), v5, v6] st h Q ↔ AW d 300 895 [v0, v1, v2, v3, some (.int x), v5, v6] (.int x :: st) h Q := w_st rfl rfl rfl rfl rfl
set_option maxRecDepth 20000 in
theorem s300_895 {d : Nat} {st : List Value} {h : aM} {Q : Option Value → aM → Prop} {lv : aV} : AW d 300 895 lv st h Q ↔ AW d 300 896 lv (.int 1 :: st) h Q := w_st rfl rfl rfl rfl rfl
set_option maxRecDepth 20000 in
theorem s300_896 {d : Nat} {st : List Value} {h : aM} {Q : Option Value → aM → Prop} {lv : aV} {x y : Int32} : AW d 300 896 lv (.int y :: .int x :: st) h Q ↔ AW d 300 897 lv (.int (x + y) :: st) h Q := w_st rfl rfl rfl rfl rfl
set_option maxRecDepth 20000 in
theorem s300_897 {d : Nat} {st : List Value} {h : aM} {Q : Option Value → aM → Prop} {lv : aV} {a : Nat} {i : Int32} : AW d 300 897 lv (.int i :: .ref a :: st) h Q ↔ inA h a 100 i ∧ AW d 300 898 lv (.int (gi h a i.toNatClampNeg) :: st) h Q := w_ite rfl rfl rfl rfl rfl aArr_iff
set_option maxRecDepth 20000 in
theorem s300_898 {d : Nat} {st : List Value} {h : aM} {Q : Option Value → aM → Prop} {lv : aV} {a : Nat} {x0 : Int32} : AW (d + 1) 300 898 lv (.int x0 :: .ref a :: st) h Q ↔ (sh h a = some (11, 50) ∧ cs st ≤ 8) ∧ AW d 236 0 [some (.ref a), some (.int x0)] [] h (fun v h => AW (d + 1) 300 901 lv (v.toList ++ st) h Q) := w_c (k := 300) (pc := 898) (pc' := 901) (as := [.ref a, .int x0]) (st := st) (st' := (.int x0 :: .ref a :: st)) (lv' := [some (.ref a), some (.int x0)]) (h := h) (r3 := 11) rfl rfl rfl mi236 rfl rfl (Nat.le_of_ble_eq_true rfl) (rc_v rfl) rfl rfl
set_option maxRecDepth 20000 in
theorem s300_901 {d : Nat} {st : List Value} {h : aM} {Q : Option Value → aM → Prop} {lv : aV} {x y : Int32} : AW d 300 901 lv (.int y :: .int x :: st) h Q ↔ if x = y then AW d 300 1703 lv st h Q else AW d 300 904 lv st h Q := w_if rfl rfl rfl rfl rfl c2_eq
set_option maxRecDepth 20000 in
theorem s300_904 {d : Nat} {st : List Value} {h : aM} {Q : Option Value → aM → Prop} {lv : aV} : AW d 300 904 lv st h Q ↔ AW d 300 905 lv (.int 0 :: st) h Q := w_st rfl rfl rfl rfl rfl
set_option maxRecDepth 20000 in
theorem s300_905 {d : Nat} {h : aM} {Q : Option Value → aM → Prop} {lv : aV} {x : Int32} : AW d 300 905 lv [.int x] h Q ↔ narrow .boolean (.int x) = .int x ∧ Q (some (.int x)) h := w_rz rfl rfl
set_option maxRecDepth 20000 in
theorem s300_906 {d : Nat} {st : List Value} {h : aM} {Q : Option Value → aM → Prop} {v0 v2 v3 v4 v5 v6 : Option Value} {x : Nat} : AW d 300 906 [v0, some (.ref x), v2, v3, v4, v5, v6] st h Q ↔ AW d 300 907 [v0, some (.ref x), v2, v3, v4, v5, v6] (.ref x :: st) h Q := w_st rfl rfl rfl rfl rfl
set_option maxRecDepth 20000 in
theorem s300_907 {d : Nat} {st : List Value} {h : aM} {Q : Option Value → aM → Prop} {lv : aV} {a : Nat} : AW (d + 1) 300 907 lv (.ref a :: st) h Q ↔ (sh h a = some (10, 19) ∧ cs st ≤ 8) ∧ AW d 117 0 [some (.ref a)] [] h (fun v h => AW (d + 1) 300 910 lv (v.toList ++ st) h Q) := w_c (k := 300) (pc := 907) (pc' := 910) (as := [.ref a]) (st := st) (st' := (.ref a :: st)) (lv' := [some (.ref a)]) (h := h) (r3 := 10) rfl rfl rfl mi117 rfl rfl (Nat.le_of_ble_eq_true rfl) (rc_v rfl) rfl rfl
set_option maxRecDepth 20000 in
theorem s300_910 {d : Nat} {st : List Value} {h : aM} {Q : Option Value → aM → Prop} {v0 v1 v3 v4 v5 v6 : Option Value} {x : Nat} : AW d 300 910 [v0, v1, some (.ref x), v3, v4, v5, v6] st h Q ↔ AW d 300 911 [v0, v1, some (.ref x), v3, v4, v5, v6] (.ref x :: st) h Q := w_st rfl rfl rfl rfl rfl
set_option maxRecDepth 20000 in
theorem s300_911 {d : Nat} {st : List Value} {h : aM} {Q : Option Value → aM → Prop} {lv : aV} {a : Nat} : AW (d + 1) 300 911 lv (.ref a :: st) h Q ↔ (sh h a = some (11, 50) ∧ cs st ≤ 8) ∧ AW d 237 0 [some (.ref a), none] [] h (fun v h => AW (d + 1) 300 914 lv (v.toList ++ st) h Q) := w_c (k := 300) (pc := 911) (pc' := 914) (as := [.ref a]) (st := st) (st' := (.ref a :: st)) (lv' := [some (.ref a), none]) (h := h) (r3 := 11) rfl rfl rfl mi237 rfl rfl (Nat.le_of_ble_eq_true rfl) (rc_v rfl) rfl rfl
set_option maxRecDepth 20000 in
theorem s300_914 {d : Nat} {st : List Value} {h : aM} {Q : Option Value → aM → Prop} {lv : aV} {x y : Int32} : AW d 300 914 lv (.int y :: .int x :: st) h Q ↔ if x = y then AW d 300 1703 lv st h Q else AW d 300 917 lv st h Q := w_if rfl rfl rfl rfl rfl c2_eq
set_option maxRecDepth 20000 in
theorem s300_917 {d : Nat} {st : List Value} {h : aM} {Q : Option Value → aM → Prop} {lv : aV} : AW d 300 917 lv st h Q ↔ AW d 300 918 lv (.int 0 :: st) h Q := w_st rfl rfl rfl rfl rfl
set_option maxRecDepth 20000 in
theorem s300_918 {d : Nat} {h : aM} {Q : Option Value → aM → Prop} {lv : aV} {x : Int32} : AW d 300 918 lv [.int x] h Q ↔ narrow .boolean (.int x) = .int x ∧ Q (some (.int x)) h := w_rz rfl rfl
set_option maxRecDepth 20000 in
theorem s300_919 {d : Nat} {st : List Value} {h : aM} {Q : Option Value → aM → Prop} {v0 v2 v3 v4 v5 v6 : Option Value} {x : Nat} : AW d 300 919 [v0, some (.ref x), v2, v3, v4, v5, v6] st h Q ↔ AW d 300 920 [v0, some (.ref x), v2, v3, v4, v5, v6] (.ref x :: st) h Q := w_st rfl rfl rfl rfl rfl
set_option maxRecDepth 20000 in
theorem s300_920 {d : Nat} {st : List Value} {h : aM} {Q : Option Value → aM → Prop} {v1 v2 v3 v4 v5 v6 : Option Value} {x : Nat} : AW d 300 920 [some (.ref x), v1, v2, v3, v4, v5, v6] st h Q ↔ AW d 300 921 [some (.ref x), v1, v2, v3, v4, v5, v6] (.ref x :: st) h Q := w_st rfl rfl rfl rfl rfl
set_option maxRecDepth 20000 in
theorem s300_921 {d : Nat} {st : List Value} {h : aM} {Q : Option Value → aM → Prop} {v0 v1 v2 v3 v5 v6 : Option Value} {x : Int32} : AW d 300 921 [v0, v1, v2, v3, some (.int x), v5, v6] st h Q ↔ AW d 300 923 [v0, v1, v2, v3, some (.int x), v5, v6] (.int x :: st) h Q := w_st rfl rfl rfl rfl rfl
set_option maxRecDepth 20000 in
theorem s300_923 {d : Nat} {st : List Value} {h : aM} {Q : Option Value → aM → Prop} {lv : aV} : AW d 300 923 lv st h Q ↔ AW d 300 924 lv (.int 1 :: st) h Q := w_st rfl rfl rfl rfl rfl
set_option maxRecDepth 20000 in
theorem s300_924 {d : Nat} {st : List Value} {h : aM} {Q : Option Value → aM → Prop} {lv : aV} {x y : Int32} : AW d 300 924 lv (.int y :: .int x :: st) h Q ↔ AW d 300 925 lv (.int (x + y) :: st) h Q := w_st rfl rfl rfl rfl rfl
set_option maxRecDepth 20000 in
theorem s300_925 {d : Nat} {st : List Value} {h : aM} {Q : Option Value → aM → Prop} {lv : aV} {a : Nat} {i : Int32} : AW d 300 925 lv (.int i :: .ref a :: st) h Q ↔ inA h a 100 i ∧ AW d 300 926 lv (.int (gi h a i.toNatClampNeg) :: st) h Q := w_ite rfl rfl rfl rfl rfl aArr_iff
set_option maxRecDepth 20000 in
theorem s300_926 {d : Nat} {st : List Value} {h : aM} {Q : Option Value → aM → Prop} {v1 v2 v3 v4 v5 v6 : Option Value} {x : Nat} : AW d 300 926 [some (.ref x), v1, v2, v3, v4, v5, v6] st h Q ↔ AW d 300 927 [some (.ref x), v1, v2, v3, v4, v5, v6] (.ref x :: st) h Q := w_st rfl rfl rfl rfl rfl
set_option maxRecDepth 20000 in
theorem s300_927 {d : Nat} {st : List Value} {h : aM} {Q : Option Value → aM → Prop} {v0 v1 v2 v3 v5 v6 : Option Value} {x : Int32} : AW d 300 927 [v0, v1, v2, v3, some (.int x), v5, v6] st h Q ↔ AW d 300 929 [v0, v1, v2, v3, some (.int x), v5, v6] (.int x :: st) h Q := w_st rfl rfl rfl rfl rfl
set_option maxRecDepth 20000 in
theorem s300_929 {d : Nat} {st : List Value} {h : aM} {Q : Option Value → aM → Prop} {lv : aV} : AW d 300 929 lv st h Q ↔ AW d 300 930 lv (.int 2 :: st) h Q := w_st rfl rfl rfl rfl rfl
set_option maxRecDepth 20000 in
theorem s300_930 {d : Nat} {st : List Value} {h : aM} {Q : Option Value → aM → Prop} {lv : aV} {x y : Int32} : AW d 300 930 lv (.int y :: .int x :: st) h Q ↔ AW d 300 931 lv (.int (x + y) :: st) h Q := w_st rfl rfl rfl rfl rfl
set_option maxRecDepth 20000 in
theorem s300_931 {d : Nat} {st : List Value} {h : aM} {Q : Option Value → aM → Prop} {lv : aV} {a : Nat} {i : Int32} : AW d 300 931 lv (.int i :: .ref a :: st) h Q ↔ inA h a 100 i ∧ AW d 300 932 lv (.int (gi h a i.toNatClampNeg) :: st) h Q := w_ite rfl rfl rfl rfl rfl aArr_iff
set_option maxRecDepth 20000 in
theorem s300_932 {d : Nat} {st : List Value} {h : aM} {Q : Option Value → aM → Prop} {lv : aV} {a : Nat} {x0 : Int32} {x1 : Int32} : AW (d + 1) 300 932 lv (.int x1 :: .int x0 :: .ref a :: st) h Q ↔ (sh h a = some (10, 19) ∧ cs st ≤ 8) ∧ AW d 118 0 [some (.ref a), some (.int x0), some (.int x1)] [] h (fun v h => AW (d + 1) 300 935 lv (v.toList ++ st) h Q) := w_c (k := 300) (pc := 932) (pc' := 935) (as := [.ref a, .int x0, .int x1]) (st := st) (st' := (.int x1 :: .int x0 :: .ref a :: st)) (lv' := [some (.ref a), some (.int x0), some (.int x1)]) (h := h) (r3 := 10) rfl rfl rfl mi118 rfl rfl (Nat.le_of_ble_eq_true rfl) (rc_v rfl) rfl rfl
set_option maxRecDepth 20000 in
theorem s300_935 {d : Nat} {st : List Value} {h : aM} {Q : Option Value → aM → Prop} {v0 v1 v3 v4 v5 v6 : Option Value} {x : Nat} : AW d 300 935 [v0, v1, some (.ref x), v3, v4, v5, v6] st h Q ↔ AW d 300 936 [v0, v1, some (.ref x), v3, v4, v5, v6] (.ref x :: st) h Q := w_st rfl rfl rfl rfl rfl
set_option maxRecDepth 20000 in
theorem s300_936 {d : Nat} {st : List Value} {h : aM} {Q : Option Value → aM → Prop} {v1 v2 v3 v4 v5 v6 : Option Value} {x : Nat} : AW d 300 936 [some (.ref x), v1, v2, v3, v4, v5, v6] st h Q ↔ AW d 300 937 [some (.ref x), v1, v2, v3, v4, v5, v6] (.ref x :: st) h Q := w_st rfl rfl rfl rfl rfl
set_option maxRecDepth 20000 in
theorem s300_937 {d : Nat} {st : List Value} {h : aM} {Q : Option Value → aM → Prop} {v0 v1 v2 v3 v5 v6 : Option Value} {x : Int32} : AW d 300 937 [v0, v1, v2, v3, some (.int x), v5, v6] st h Q ↔ AW d 300 939 [v0, v1, v2, v3, some (.int x), v5, v6] (.int x :: st) h Q := w_st rfl rfl rfl rfl rfl
set_option maxRecDepth 20000 in
theorem s300_939 {d : Nat} {st : List Value} {h : aM} {Q : Option Value → aM → Prop} {lv : aV} : AW d 300 939 lv st h Q ↔ AW d 300 940 lv (.int 1 :: st) h Q := w_st rfl rfl rfl rfl rfl
set_option maxRecDepth 20000 in
theorem s300_940 {d : Nat} {st : List Value} {h : aM} {Q : Option Value → aM → Prop} {lv : aV} {x y : Int32} : AW d 300 940 lv (.int y :: .int x :: st) h Q ↔ AW d 300 941 lv (.int (x + y) :: st) h Q := w_st rfl rfl rfl rfl rfl
set_option maxRecDepth 20000 in
theorem s300_941 {d : Nat} {st : List Value} {h : aM} {Q : Option Value → aM → Prop} {lv : aV} {a : Nat} {i : Int32} : AW d 300 941 lv (.int i :: .ref a :: st) h Q ↔ inA h a 100 i ∧ AW d 300 942 lv (.int (gi h a i.toNatClampNeg) :: st) h Q := w_ite rfl rfl rfl rfl rfl aArr_iff
set_option maxRecDepth 20000 in
theorem s300_942 {d : Nat} {st : List Value} {h : aM} {Q : Option Value → aM → Prop} {v1 v2 v3 v4 v5 v6 : Option Value} {x : Nat} : AW d 300 942 [some (.ref x), v1, v2, v3, v4, v5, v6] st h Q ↔ AW d 300 943 [some (.ref x), v1, v2, v3, v4, v5, v6] (.ref x :: st) h Q := w_st rfl rfl rfl rfl rfl
set_option maxRecDepth 20000 in
theorem s300_943 {d : Nat} {st : List Value} {h : aM} {Q : Option Value → aM → Prop} {v0 v1 v2 v3 v5 v6 : Option Value} {x : Int32} : AW d 300 943 [v0, v1, v2, v3, some (.int x), v5, v6] st h Q ↔ AW d 300 945 [v0, v1, v2, v3, some (.int x), v5, v6] (.int x :: st) h Q := w_st rfl rfl rfl rfl rfl
set_option maxRecDepth 20000 in
theorem s300_945 {d : Nat} {st : List Value} {h : aM} {Q : Option Value → aM → Prop} {lv : aV} : AW d 300 945 lv st h Q ↔ AW d 300 946 lv (.int 2 :: st) h Q := w_st rfl rfl rfl rfl rfl
set_option maxRecDepth 20000 in
theorem s300_946 {d : Nat} {st : List Value} {h : aM} {Q : Option Value → aM → Prop} {lv : aV} {x y : Int32} : AW d 300 946 lv (.int y :: .int x :: st) h Q ↔ AW d 300 947 lv (.int (x + y) :: st) h Q := w_st rfl rfl rfl rfl rfl
set_option maxRecDepth 20000 in
theorem s300_947 {d : Nat} {st : List Value} {h : aM} {Q : Option Value → aM → Prop} {lv : aV} {a : Nat} {i : Int32} : AW d 300 947 lv (.int i :: .ref a :: st) h Q ↔ inA h a 100 i ∧ AW d 300 948 lv (.int (gi h a i.toNatClampNeg) :: st) h Q := w_ite rfl rfl rfl rfl rfl aArr_iff
set_option maxRecDepth 20000 in
theorem s300_948 {d : Nat} {st : List Value} {h : aM} {Q : Option Value → aM → Prop} {lv : aV} {a : Nat} {x0 : Int32} {x1 : Int32} : AW (d + 1) 300 948 lv (.int x1 :: .int x0 :: .ref a :: st) h Q ↔ (sh h a = some (11, 50) ∧ cs st ≤ 8) ∧ AW d 238 0 [some (.ref a), some (.int x0), some (.int x1)] [] h (fun v h => AW (d + 1) 300 951 lv (v.toList ++ st) h Q) := w_c (k := 300) (pc := 948) (pc' := 951) (as := [.ref a, .int x0, .int x1]) (st := st) (st' := (.int x1 :: .int x0 :: .ref a :: st)) (lv' := [some (.ref a), some (.int x0), some (.int x1)]) (h := h) (r3 := 11) rfl rfl rfl mi238 rfl rfl (Nat.le_of_ble_eq_true rfl) (rc_v rfl) rfl rfl
set_option maxRecDepth 20000 in
theorem s300_951 {d : Nat} {st : List Value} {h : aM} {Q : Option Value → aM → Prop} {lv : aV} {x y : Int32} : AW d 300 951 lv (.int y :: .int x :: st) h Q ↔ if x = y then AW d 300 1703 lv st h Q else AW d 300 954 lv st h Q := w_if rfl rfl rfl rfl rfl c2_eq
set_option maxRecDepth 20000 in
theorem s300_954 {d : Nat} {st : List Value} {h : aM} {Q : Option Value → aM → Prop} {lv : aV} : AW d 300 954 lv st h Q ↔ AW d 300 955 lv (.int 0 :: st) h Q := w_st rfl rfl rfl rfl rfl
set_option maxRecDepth 20000 in
theorem s300_955 {d : Nat} {h : aM} {Q : Option Value → aM → Prop} {lv : aV} {x : Int32} : AW d 300 955 lv [.int x] h Q ↔ narrow .boolean (.int x) = .int x ∧ Q (some (.int x)) h := w_rz rfl rfl
set_option maxRecDepth 20000 in
theorem s300_956 {d : Nat} {st : List Value} {h : aM} {Q : Option Value → aM → Prop} {v0 v2 v3 v4 v5 v6 : Option Value} {x : Nat} : AW d 300 956 [v0, some (.ref x), v2, v3, v4, v5, v6] st h Q ↔ AW d 300 957 [v0, some (.ref x), v2, v3, v4, v5, v6] (.ref x :: st) h Q := w_st rfl rfl rfl rfl rfl
set_option maxRecDepth 20000 in
theorem s300_957 {d : Nat} {st : List Value} {h : aM} {Q : Option Value → aM → Prop} {v1 v2 v3 v4 v5 v6 : Option Value} {x : Nat} : AW d 300 957 [some (.ref x), v1, v2, v3, v4, v5, v6] st h Q ↔ AW d 300 958 [some (.ref x), v1, v2, v3, v4, v5, v6] (.ref x :: st) h Q := w_st rfl rfl rfl rfl rfl
set_option maxRecDepth 20000 in
theorem s300_958 {d : Nat} {st : List Value} {h : aM} {Q : Option Value → aM → Prop} {v0 v1 v2 v3 v5 v6 : Option Value} {x : Int32} : AW d 300 958 [v0, v1, v2, v3, some (.int x), v5, v6] st h Q ↔ AW d 300 960 [v0, v1, v2, v3, some (.int x), v5, v6] (.int x :: st) h Q := w_st rfl rfl rfl rfl rfl
set_option maxRecDepth 20000 in
theorem s300_960 {d : Nat} {st : List Value} {h : aM} {Q : Option Value → aM → Prop} {lv : aV} : AW d 300 960 lv st h Q ↔ AW d 300 961 lv (.int 1 :: st) h Q := w_st rfl rfl rfl rfl rfl
set_option maxRecDepth 20000 in
theorem s300_961 {d : Nat} {st : List Value} {h : aM} {Q : Option Value → aM → Prop} {lv : aV} {x y : Int32} : AW d 300 961 lv (.int y :: .int x :: st) h Q ↔ AW d 300 962 lv (.int (x + y) :: st) h Q := w_st rfl rfl rfl rfl rfl
set_option maxRecDepth 20000 in
theorem s300_962 {d : Nat} {st : List Value} {h : aM} {Q : Option Value → aM → Prop} {lv : aV} {a : Nat} {i : Int32} : AW d 300 962 lv (.int i :: .ref a :: st) h Q ↔ inA h a 100 i ∧ AW d 300 963 lv (.int (gi h a i.toNatClampNeg) :: st) h Q := w_ite rfl rfl rfl rfl rfl aArr_iff
set_option maxRecDepth 20000 in
theorem s300_963 {d : Nat} {st : List Value} {h : aM} {Q : Option Value → aM → Prop} {lv : aV} {a : Nat} {x0 : Int32} : AW (d + 1) 300 963 lv (.int x0 :: .ref a :: st) h Q ↔ (sh h a = some (10, 19) ∧ cs st ≤ 8) ∧ AW d 130 0 [some (.ref a), some (.int x0)] [] h (fun v h => AW (d + 1) 300 966 lv (v.toList ++ st) h Q) := w_c (k := 300) (pc := 963) (pc' := 966) (as := [.ref a, .int x0]) (st := st) (st' := (.int x0 :: .ref a :: st)) (lv' := [some (.ref a), some (.int x0)]) (h := h) (r3 := 10) rfl rfl rfl mi130 rfl rfl (Nat.le_of_ble_eq_true rfl) (rc_v rfl) rfl rfl
set_option maxRecDepth 20000 in
theorem s300_966 {d : Nat} {st : List Value} {h : aM} {Q : Option Value → aM → Prop} {v0 v1 v3 v4 v5 v6 : Option Value} {x : Nat} : AW d 300 966 [v0, v1, some (.ref x), v3, v4, v5, v6] st h Q ↔ AW d 300 967 [v0, v1, some (.ref x), v3, v4, v5, v6] (.ref x :: st) h Q := w_st rfl rfl rfl rfl rfl
set_option maxRecDepth 20000 in
theorem s300_967 {d : Nat} {st : List Value} {h : aM} {Q : Option Value → aM → Prop} {v1 v2 v3 v4 v5 v6 : Option Value} {x : Nat} : AW d 300 967 [some (.ref x), v1, v2, v3, v4, v5, v6] st h Q ↔ AW d 300 968 [some (.ref x), v1, v2, v3, v4, v5, v6] (.ref x :: st) h Q := w_st rfl rfl rfl rfl rfl
set_option maxRecDepth 20000 in
theorem s300_968 {d : Nat} {st : List Value} {h : aM} {Q : Option Value → aM → Prop} {v0 v1 v2 v3 v5 v6 : Option Value} {x : Int32} : AW d 300 968 [v0, v1, v2, v3, some (.int x), v5, v6] st h Q ↔ AW d 300 970 [v0, v1, v2, v3, some (.int x), v5, v6] (.int x :: st) h Q := w_st rfl rfl rfl rfl rfl
set_option maxRecDepth 20000 in
theorem s300_970 {d : Nat} {st : List Value} {h : aM} {Q : Option Value → aM → Prop} {lv : aV} : AW d 300 970 lv st h Q ↔ AW d 300 971 lv (.int 1 :: st) h Q := w_st rfl rfl rfl rfl rfl
set_option maxRecDepth 20000 in
theorem s300_971 {d : Nat} {st : List Value} {h : aM} {Q : Option Value → aM → Prop} {lv : aV} {x y : Int32} : AW d 300 971 lv (.int y :: .int x :: st) h Q ↔ AW d 300 972 lv (.int (x + y) :: st) h Q := w_st rfl rfl rfl rfl rfl
set_option maxRecDepth 20000 in
theorem s300_972 {d : Nat} {st : List Value} {h : aM} {Q : Option Value → aM → Prop} {lv : aV} {a : Nat} {i : Int32} : AW d 300 972 lv (.int i :: .ref a :: st) h Q ↔ inA h a 100 i ∧ AW d 300 973 lv (.int (gi h a i.toNatClampNeg) :: st) h Q := w_ite rfl rfl rfl rfl rfl aArr_iff
set_option maxRecDepth 20000 in
theorem s300_973 {d : Nat} {st : List Value} {h : aM} {Q : Option Value → aM → Prop} {lv : aV} {a : Nat} {x0 : Int32} : AW (d + 1) 300 973 lv (.int x0 :: .ref a :: st) h Q ↔ (sh h a = some (11, 50) ∧ cs st ≤ 8) ∧ AW d 239 0 [some (.ref a), some (.int x0)] [] h (fun v h => AW (d + 1) 300 976 lv (v.toList ++ st) h Q) := w_c (k := 300) (pc := 973) (pc' := 976) (as := [.ref a, .int x0]) (st := st) (st' := (.int x0 :: .ref a :: st)) (lv' := [some (.ref a), some (.int x0)]) (h := h) (r3 := 11) rfl rfl rfl mi239 rfl rfl (Nat.le_of_ble_eq_true rfl) (rc_v rfl) rfl rfl
set_option maxRecDepth 20000 in
theorem s300_976 {d : Nat} {st : List Value} {h : aM} {Q : Option Value → aM → Prop} {lv : aV} {x y : Int32} : AW d 300 976 lv (.int y :: .int x :: st) h Q ↔ if x = y then AW d 300 1703 lv st h Q else AW d 300 979 lv st h Q := w_if rfl rfl rfl rfl rfl c2_eq
set_option maxRecDepth 20000 in
theorem s300_979 {d : Nat} {st : List Value} {h : aM} {Q : Option Value → aM → Prop} {lv : aV} : AW d 300 979 lv st h Q ↔ AW d 300 980 lv (.int 0 :: st) h Q := w_st rfl rfl rfl rfl rfl
set_option maxRecDepth 20000 in
theorem s300_980 {d : Nat} {h : aM} {Q : Option Value → aM → Prop} {lv : aV} {x : Int32} : AW d 300 980 lv [.int x] h Q ↔ narrow .boolean (.int x) = .int x ∧ Q (some (.int x)) h := w_rz rfl rfl
set_option maxRecDepth 20000 in
theorem s300_981 {d : Nat} {st : List Value} {h : aM} {Q : Option Value → aM → Prop} {v0 v2 v3 v4 v5 v6 : Option Value} {x : Nat} : AW d 300 981 [v0, some (.ref x), v2, v3, v4, v5, v6] st h Q ↔ AW d 300 982 [v0, some (.ref x), v2, v3, v4, v5, v6] (.ref x :: st) h Q := w_st rfl rfl rfl rfl rfl
set_option maxRecDepth 20000 in
theorem s300_982 {d : Nat} {st : List Value} {h : aM} {Q : Option Value → aM → Prop} {v1 v2 v3 v4 v5 v6 : Option Value} {x : Nat} : AW d 300 982 [some (.ref x), v1, v2, v3, v4, v5, v6] st h Q ↔ AW d 300 983 [some (.ref x), v1, v2, v3, v4, v5, v6] (.ref x :: st) h Q := w_st rfl rfl rfl rfl rfl
set_option maxRecDepth 20000 in
theorem s300_983 {d : Nat} {st : List Value} {h : aM} {Q : Option Value → aM → Prop} {v0 v1 v2 v3 v5 v6 : Option Value} {x : Int32} : AW d 300 983 [v0, v1, v2, v3, some (.int x), v5, v6] st h Q ↔ AW d 300 985 [v0, v1, v2, v3, some (.int x), v5, v6] (.int x :: st) h Q := w_st rfl rfl rfl rfl rfl
set_option maxRecDepth 20000 in
theorem s300_985 {d : Nat} {st : List Value} {h : aM} {Q : Option Value → aM → Prop} {lv : aV} : AW d 300 985 lv st h Q ↔ AW d 300 986 lv (.int 1 :: st) h Q := w_st rfl rfl rfl rfl rfl
set_option maxRecDepth 20000 in
theorem s300_986 {d : Nat} {st : List Value} {h : aM} {Q : Option Value → aM → Prop} {lv : aV} {x y : Int32} : AW d 300 986 lv (.int y :: .int x :: st) h Q ↔ AW d 300 987 lv (.int (x + y) :: st) h Q := w_st rfl rfl rfl rfl rfl
set_option maxRecDepth 20000 in
theorem s300_987 {d : Nat} {st : List Value} {h : aM} {Q : Option Value → aM → Prop} {lv : aV} {a : Nat} {i : Int32} : AW d 300 987 lv (.int i :: .ref a :: st) h Q ↔ inA h a 100 i ∧ AW d 300 988 lv (.int (gi h a i.toNatClampNeg) :: st) h Q := w_ite rfl rfl rfl rfl rfl aArr_iff
set_option maxRecDepth 20000 in
theorem s300_988 {d : Nat} {st : List Value} {h : aM} {Q : Option Value → aM → Prop} {lv : aV} {a : Nat} {x0 : Int32} : AW (d + 1) 300 988 lv (.int x0 :: .ref a :: st) h Q ↔ (sh h a = some (10, 19) ∧ cs st ≤ 8) ∧ AW d 131 0 [some (.ref a), some (.int x0)] [] h (fun v h => AW (d + 1) 300 991 lv (v.toList ++ st) h Q) := w_c (k := 300) (pc := 988) (pc' := 991) (as := [.ref a, .int x0]) (st := st) (st' := (.int x0 :: .ref a :: st)) (lv' := [some (.ref a), some (.int x0)]) (h := h) (r3 := 10) rfl rfl rfl mi131 rfl rfl (Nat.le_of_ble_eq_true rfl) (rc_v rfl) rfl rfl
set_option maxRecDepth 20000 in
theorem s300_991 {d : Nat} {st : List Value} {h : aM} {Q : Option Value → aM → Prop} {v0 v1 v3 v4 v5 v6 : Option Value} {x : Nat} : AW d 300 991 [v0, v1, some (.ref x), v3, v4, v5, v6] st h Q ↔ AW d 300 992 [v0, v1, some (.ref x), v3, v4, v5, v6] (.ref x :: st) h Q := w_st rfl rfl rfl rfl rfl
set_option maxRecDepth 20000 in
theorem s300_992 {d : Nat} {st : List Value} {h : aM} {Q : Option Value → aM → Prop} {v1 v2 v3 v4 v5 v6 : Option Value} {x : Nat} : AW d 300 992 [some (.ref x), v1, v2, v3, v4, v5, v6] st h Q ↔ AW d 300 993 [some (.ref x), v1, v2, v3, v4, v5, v6] (.ref x :: st) h Q := w_st rfl rfl rfl rfl rfl
set_option maxRecDepth 20000 in
theorem s300_993 {d : Nat} {st : List Value} {h : aM} {Q : Option Value → aM → Prop} {v0 v1 v2 v3 v5 v6 : Option Value} {x : Int32} : AW d 300 993 [v0, v1, v2, v3, some (.int x), v5, v6] st h Q ↔ AW d 300 995 [v0, v1, v2, v3, some (.int x), v5, v6] (.int x :: st) h Q := w_st rfl rfl rfl rfl rfl
set_option maxRecDepth 20000 in
theorem s300_995 {d : Nat} {st : List Value} {h : aM} {Q : Option Value → aM → Prop} {lv : aV} : AW d 300 995 lv st h Q ↔ AW d 300 996 lv (.int 1 :: st) h Q := w_st rfl rfl rfl rfl rfl
set_option maxRecDepth 20000 in
theorem s300_996 {d : Nat} {st : List Value} {h : aM} {Q : Option Value → aM → Prop} {lv : aV} {x y : Int32} : AW d 300 996 lv (.int y :: .int x :: st) h Q ↔ AW d 300 997 lv (.int (x + y) :: st) h Q := w_st rfl rfl rfl rfl rfl
set_option maxRecDepth 20000 in
theorem s300_997 {d : Nat} {st : List Value} {h : aM} {Q : Option Value → aM → Prop} {lv : aV} {a : Nat} {i : Int32} : AW d 300 997 lv (.int i :: .ref a :: st) h Q ↔ inA h a 100 i ∧ AW d 300 998 lv (.int (gi h a i.toNatClampNeg) :: st) h Q := w_ite rfl rfl rfl rfl rfl aArr_iff
set_option maxRecDepth 20000 in
theorem s300_998 {d : Nat} {st : List Value} {h : aM} {Q : Option Value → aM → Prop} {lv : aV} {a : Nat} {x0 : Int32} : AW (d + 1) 300 998 lv (.int x0 :: .ref a :: st) h Q ↔ (sh h a = some (11, 50) ∧ cs st ≤ 8) ∧ AW d 240 0 [some (.ref a), some (.int x0)] [] h (fun v h => AW (d + 1) 300 1001 lv (v.toList ++ st) h Q) := w_c (k := 300) (pc := 998) (pc' := 1001) (as := [.ref a, .int x0]) (st := st) (st' := (.int x0 :: .ref a :: st)) (lv' := [some (.ref a), some (.int x0)]) (h := h) (r3 := 11) rfl rfl rfl mi240 rfl rfl (Nat.le_of_ble_eq_true rfl) (rc_v rfl) rfl rfl
set_option maxRecDepth 20000 in
theorem s300_1001 {d : Nat} {st : List Value} {h : aM} {Q : Option Value → aM → Prop} {lv : aV} {x y : Int32} : AW d 300 1001 lv (.int y :: .int x :: st) h Q ↔ if x = y then AW d 300 1703 lv st h Q else AW d 300 1004 lv st h Q := w_if rfl rfl rfl rfl rfl c2_eq
set_option maxRecDepth 20000 in
theorem s300_1004 {d : Nat} {st : List Value} {h : aM} {Q : Option Value → aM → Prop} {lv : aV} : AW d 300 1004 lv st h Q ↔ AW d 300 1005 lv (.int 0 :: st) h Q := w_st rfl rfl rfl rfl rfl
set_option maxRecDepth 20000 in
theorem s300_1005 {d : Nat} {h : aM} {Q : Option Value → aM → Prop} {lv : aV} {x : Int32} : AW d 300 1005 lv [.int x] h Q ↔ narrow .boolean (.int x) = .int x ∧ Q (some (.int x)) h := w_rz rfl rfl
set_option maxRecDepth 20000 in
theorem s300_1006 {d : Nat} {st : List Value} {h : aM} {Q : Option Value → aM → Prop} {v0 v2 v3 v4 v5 v6 : Option Value} {x : Nat} : AW d 300 1006 [v0, some (.ref x), v2, v3, v4, v5, v6] st h Q ↔ AW d 300 1007 [v0, some (.ref x), v2, v3, v4, v5, v6] (.ref x :: st) h Q := w_st rfl rfl rfl rfl rfl
set_option maxRecDepth 20000 in
theorem s300_1007 {d : Nat} {st : List Value} {h : aM} {Q : Option Value → aM → Prop} {v1 v2 v3 v4 v5 v6 : Option Value} {x : Nat} : AW d 300 1007 [some (.ref x), v1, v2, v3, v4, v5, v6] st h Q ↔ AW d 300 1008 [some (.ref x), v1, v2, v3, v4, v5, v6] (.ref x :: st) h Q := w_st rfl rfl rfl rfl rfl
set_option maxRecDepth 20000 in
theorem s300_1008 {d : Nat} {st : List Value} {h : aM} {Q : Option Value → aM → Prop} {v0 v1 v2 v3 v5 v6 : Option Value} {x : Int32} : AW d 300 1008 [v0, v1, v2, v3, some (.int x), v5, v6] st h Q ↔ AW d 300 1010 [v0, v1, v2, v3, some (.int x), v5, v6] (.int x :: st) h Q := w_st rfl rfl rfl rfl rfl
set_option maxRecDepth 20000 in
theorem s300_1010 {d : Nat} {st : List Value} {h : aM} {Q : Option Value → aM → Prop} {lv : aV} : AW d 300 1010 lv st h Q ↔ AW d 300 1011 lv (.int 1 :: st) h Q := w_st rfl rfl rfl rfl rfl
set_option maxRecDepth 20000 in
theorem s300_1011 {d : Nat} {st : List Value} {h : aM} {Q : Option Value → aM → Prop} {lv : aV} {x y : Int32} : AW d 300 1011 lv (.int y :: .int x :: st) h Q ↔ AW d 300 1012 lv (.int (x + y) :: st) h Q := w_st rfl rfl rfl rfl rfl
set_option maxRecDepth 20000 in
theorem s300_1012 {d : Nat} {st : List Value} {h : aM} {Q : Option Value → aM → Prop} {lv : aV} {a : Nat} {i : Int32} : AW d 300 1012 lv (.int i :: .ref a :: st) h Q ↔ inA h a 100 i ∧ AW d 300 1013 lv (.int (gi h a i.toNatClampNeg) :: st) h Q := w_ite rfl rfl rfl rfl rfl aArr_iff
set_option maxRecDepth 20000 in
theorem s300_1013 {d : Nat} {st : List Value} {h : aM} {Q : Option Value → aM → Prop} {lv : aV} {a : Nat} {x0 : Int32} : AW (d + 1) 300 1013 lv (.int x0 :: .ref a :: st) h Q ↔ (sh h a = some (10, 19) ∧ cs st ≤ 8) ∧ AW d 132 0 [some (.ref a), some (.int x0)] [] h (fun v h => AW (d + 1) 300 1016 lv (v.toList ++ st) h Q) := w_c (k := 300) (pc := 1013) (pc' := 1016) (as := [.ref a, .int x0]) (st := st) (st' := (.int x0 :: .ref a :: st)) (lv' := [some (.ref a), some (.int x0)]) (h := h) (r3 := 10) rfl rfl rfl mi132 rfl rfl (Nat.le_of_ble_eq_true rfl) (rc_v rfl) rfl rfl
set_option maxRecDepth 20000 in
theorem s300_1016 {d : Nat} {st : List Value} {h : aM} {Q : Option Value → aM → Prop} {v0 v1 v3 v4 v5 v6 : Option Value} {x : Nat} : AW d 300 1016 [v0, v1, some (.ref x), v3, v4, v5, v6] st h Q ↔ AW d 300 1017 [v0, v1, some (.ref x), v3, v4, v5, v6] (.ref x :: st) h Q := w_st rfl rfl rfl rfl rfl
set_option maxRecDepth 20000 in
theorem s300_1017 {d : Nat} {st : List Value} {h : aM} {Q : Option Value → aM → Prop} {v1 v2 v3 v4 v5 v6 : Option Value} {x : Nat} : AW d 300 1017 [some (.ref x), v1, v2, v3, v4, v5, v6] st h Q ↔ AW d 300 1018 [some (.ref x), v1, v2, v3, v4, v5, v6] (.ref x :: st) h Q := w_st rfl rfl rfl rfl rfl
set_option maxRecDepth 20000 in
theorem s300_1018 {d : Nat} {st : List Value} {h : aM} {Q : Option Value → aM → Prop} {v0 v1 v2 v3 v5 v6 : Option Value} {x : Int32} : AW d 300 1018 [v0, v1, v2, v3, some (.int x), v5, v6] st h Q ↔ AW d 300 1020 [v0, v1, v2, v3, some (.int x), v5, v6] (.int x :: st) h Q := w_st rfl rfl rfl rfl rfl
set_option maxRecDepth 20000 in
theorem s300_1020 {d : Nat} {st : List Value} {h : aM} {Q : Option Value → aM → Prop} {lv : aV} : AW d 300 1020 lv st h Q ↔ AW d 300 1021 lv (.int 1 :: st) h Q := w_st rfl rfl rfl rfl rfl
set_option maxRecDepth 20000 in
theorem s300_1021 {d : Nat} {st : List Value} {h : aM} {Q : Option Value → aM → Prop} {lv : aV} {x y : Int32} : AW d 300 1021 lv (.int y :: .int x :: st) h Q ↔ AW d 300 1022 lv (.int (x + y) :: st) h Q := w_st rfl rfl rfl rfl rfl
set_option maxRecDepth 20000 in
theorem s300_1022 {d : Nat} {st : List Value} {h : aM} {Q : Option Value → aM → Prop} {lv : aV} {a : Nat} {i : Int32} : AW d 300 1022 lv (.int i :: .ref a :: st) h Q ↔ inA h a 100 i ∧ AW d 300 1023 lv (.int (gi h a i.toNatClampNeg) :: st) h Q := w_ite rfl rfl rfl rfl rfl aArr_iff
set_option maxRecDepth 20000 in
theorem s300_1023 {d : Nat} {st : List Value} {h : aM} {Q : Option Value → aM → Prop} {lv : aV} {a : Nat} {x0 : Int32} : AW (d + 1) 300 1023 lv (.int x0 :: .ref a :: st) h Q ↔ (sh h a = some (11, 50) ∧ cs st ≤ 8) ∧ AW d 244 0 [some (.ref a), some (.int x0)] [] h (fun v h => AW (d + 1) 300 1026 lv (v.toList ++ st) h Q) := w_c (k := 300) (pc := 1023) (pc' := 1026) (as := [.ref a, .int x0]) (st := st) (st' := (.int x0 :: .ref a :: st)) (lv' := [some (.ref a), some (.int x0)]) (h := h) (r3 := 11) rfl rfl rfl mi244 rfl rfl (Nat.le_of_ble_eq_true rfl) (rc_v rfl) rfl rfl
set_option maxRecDepth 20000 in
theorem s300_1026 {d : Nat} {st : List Value} {h : aM} {Q : Option Value → aM → Prop} {lv : aV} {x y : Int32} : AW d 300 1026 lv (.int y :: .int x :: st) h Q ↔ if x = y then AW d 300 1703 lv st h Q else AW d 300 1029 lv st h Q := w_if rfl rfl rfl rfl rfl c2_eq
set_option maxRecDepth 20000 in
theorem s300_1029 {d : Nat} {st : List Value} {h : aM} {Q : Option Value → aM → Prop} {lv : aV} : AW d 300 1029 lv st h Q ↔ AW d 300 1030 lv (.int 0 :: st) h Q := w_st rfl rfl rfl rfl rfl
set_option maxRecDepth 20000 in
theorem s300_1030 {d : Nat} {h : aM} {Q : Option Value → aM → Prop} {lv : aV} {x : Int32} : AW d 300 1030 lv [.int x] h Q ↔ narrow .boolean (.int x) = .int x ∧ Q (some (.int x)) h := w_rz rfl rfl
set_option maxRecDepth 20000 in
theorem s300_1031 {d : Nat} {st : List Value} {h : aM} {Q : Option Value → aM → Prop} {v0 v2 v3 v4 v5 v6 : Option Value} {x : Nat} : AW d 300 1031 [v0, some (.ref x), v2, v3, v4, v5, v6] st h Q ↔ AW d 300 1032 [v0, some (.ref x), v2, v3, v4, v5, v6] (.ref x :: st) h Q := w_st rfl rfl rfl rfl rfl
set_option maxRecDepth 20000 in
theorem s300_1032 {d : Nat} {st : List Value} {h : aM} {Q : Option Value → aM → Prop} {v1 v2 v3 v4 v5 v6 : Option Value} {x : Nat} : AW d 300 1032 [some (.ref x), v1, v2, v3, v4, v5, v6] st h Q ↔ AW d 300 1033 [some (.ref x), v1, v2, v3, v4, v5, v6] (.ref x :: st) h Q := w_st rfl rfl rfl rfl rfl
set_option maxRecDepth 20000 in
theorem s300_1033 {d : Nat} {st : List Value} {h : aM} {Q : Option Value → aM → Prop} {v0 v1 v2 v3 v5 v6 : Option Value} {x : Int32} : AW d 300 1033 [v0, v1, v2, v3, some (.int x), v5, v6] st h Q ↔ AW d 300 1035 [v0, v1, v2, v3, some (.int x), v5, v6] (.int x :: st) h Q := w_st rfl rfl rfl rfl rfl
set_option maxRecDepth 20000 in
theorem s300_1035 {d : Nat} {st : List Value} {h : aM} {Q : Option Value → aM → Prop} {lv : aV} : AW d 300 1035 lv st h Q ↔ AW d 300 1036 lv (.int 1 :: st) h Q := w_st rfl rfl rfl rfl rfl
set_option maxRecDepth 20000 in
theorem s300_1036 {d : Nat} {st : List Value} {h : aM} {Q : Option Value → aM → Prop} {lv : aV} {x y : Int32} : AW d 300 1036 lv (.int y :: .int x :: st) h Q ↔ AW d 300 1037 lv (.int (x + y) :: st) h Q := w_st rfl rfl rfl rfl rfl
set_option maxRecDepth 20000 in
theorem s300_1037 {d : Nat} {st : List Value} {h : aM} {Q : Option Value → aM → Prop} {lv : aV} {a : Nat} {i : Int32} : AW d 300 1037 lv (.int i :: .ref a :: st) h Q ↔ inA h a 100 i ∧ AW d 300 1038 lv (.int (gi h a i.toNatClampNeg) :: st) h Q := w_ite rfl rfl rfl rfl rfl aArr_iff
set_option maxRecDepth 20000 in
theorem s300_1038 {d : Nat} {st : List Value} {h : aM} {Q : Option Value → aM → Prop} {v1 v2 v3 v4 v5 v6 : Option Value} {x : Nat} : AW d 300 1038 [some (.ref x), v1, v2, v3, v4, v5, v6] st h Q ↔ AW d 300 1039 [some (.ref x), v1, v2, v3, v4, v5, v6] (.ref x :: st) h Q := w_st rfl rfl rfl rfl rfl
set_option maxRecDepth 20000 in
theorem s300_1039 {d : Nat} {st : List Value} {h : aM} {Q : Option Value → aM → Prop} {v0 v1 v2 v3 v5 v6 : Option Value} {x : Int32} : AW d 300 1039 [v0, v1, v2, v3, some (.int x), v5, v6] st h Q ↔ AW d 300 1041 [v0, v1, v2, v3, some (.int x), v5, v6] (.int x :: st) h Q := w_st rfl rfl rfl rfl rfl
set_option maxRecDepth 20000 in
theorem s300_1041 {d : Nat} {st : List Value} {h : aM} {Q : Option Value → aM → Prop} {lv : aV} : AW d 300 1041 lv st h Q ↔ AW d 300 1042 lv (.int 2 :: st) h Q := w_st rfl rfl rfl rfl rfl
set_option maxRecDepth 20000 in
theorem s300_1042 {d : Nat} {st : List Value} {h : aM} {Q : Option Value → aM → Prop} {lv : aV} {x y : Int32} : AW d 300 1042 lv (.int y :: .int x :: st) h Q ↔ AW d 300 1043 lv (.int (x + y) :: st) h Q := w_st rfl rfl rfl rfl rfl
set_option maxRecDepth 20000 in
theorem s300_1043 {d : Nat} {st : List Value} {h : aM} {Q : Option Value → aM → Prop} {lv : aV} {a : Nat} {i : Int32} : AW d 300 1043 lv (.int i :: .ref a :: st) h Q ↔ inA h a 100 i ∧ AW d 300 1044 lv (.int (gi h a i.toNatClampNeg) :: st) h Q := w_ite rfl rfl rfl rfl rfl aArr_iff
set_option maxRecDepth 20000 in
theorem s300_1044 {d : Nat} {st : List Value} {h : aM} {Q : Option Value → aM → Prop} {lv : aV} {a : Nat} {x0 : Int32} {x1 : Int32} : AW (d + 1) 300 1044 lv (.int x1 :: .int x0 :: .ref a :: st) h Q ↔ (sh h a = some (10, 19) ∧ cs st ≤ 8) ∧ AW d 134 0 [some (.ref a), some (.int x0), some (.int x1), none, none, none] [] h (fun v h => AW (d + 1) 300 1047 lv (v.toList ++ st) h Q) := w_c (k := 300) (pc := 1044) (pc' := 1047) (as := [.ref a, .int x0, .int x1]) (st := st) (st' := (.int x1 :: .int x0 :: .ref a :: st)) (lv' := [some (.ref a), some (.int x0), some (.int x1), none, none, none]) (h := h) (r3 := 10) rfl rfl rfl mi134 rfl rfl (Nat.le_of_ble_eq_true rfl) (rc_v rfl) rfl rfl
set_option maxRecDepth 20000 in
theorem s300_1047 {d : Nat} {st : List Value} {h : aM} {Q : Option Value → aM → Prop} {v0 v1 v3 v4 v5 v6 : Option Value} {x : Nat} : AW d 300 1047 [v0, v1, some (.ref x), v3, v4, v5, v6] st h Q ↔ AW d 300 1048 [v0, v1, some (.ref x), v3, v4, v5, v6] (.ref x :: st) h Q := w_st rfl rfl rfl rfl rfl
set_option maxRecDepth 20000 in
theorem s300_1048 {d : Nat} {st : List Value} {h : aM} {Q : Option Value → aM → Prop} {v1 v2 v3 v4 v5 v6 : Option Value} {x : Nat} : AW d 300 1048 [some (.ref x), v1, v2, v3, v4, v5, v6] st h Q ↔ AW d 300 1049 [some (.ref x), v1, v2, v3, v4, v5, v6] (.ref x :: st) h Q := w_st rfl rfl rfl rfl rfl
set_option maxRecDepth 20000 in
theorem s300_1049 {d : Nat} {st : List Value} {h : aM} {Q : Option Value → aM → Prop} {v0 v1 v2 v3 v5 v6 : Option Value} {x : Int32} : AW d 300 1049 [v0, v1, v2, v3, some (.int x), v5, v6] st h Q ↔ AW d 300 1051 [v0, v1, v2, v3, some (.int x), v5, v6] (.int x :: st) h Q := w_st rfl rfl rfl rfl rfl
set_option maxRecDepth 20000 in
theorem s300_1051 {d : Nat} {st : List Value} {h : aM} {Q : Option Value → aM → Prop} {lv : aV} : AW d 300 1051 lv st h Q ↔ AW d 300 1052 lv (.int 1 :: st) h Q := w_st rfl rfl rfl rfl rfl
set_option maxRecDepth 20000 in
theorem s300_1052 {d : Nat} {st : List Value} {h : aM} {Q : Option Value → aM → Prop} {lv : aV} {x y : Int32} : AW d 300 1052 lv (.int y :: .int x :: st) h Q ↔ AW d 300 1053 lv (.int (x + y) :: st) h Q := w_st rfl rfl rfl rfl rfl
set_option maxRecDepth 20000 in
theorem s300_1053 {d : Nat} {st : List Value} {h : aM} {Q : Option Value → aM → Prop} {lv : aV} {a : Nat} {i : Int32} : AW d 300 1053 lv (.int i :: .ref a :: st) h Q ↔ inA h a 100 i ∧ AW d 300 1054 lv (.int (gi h a i.toNatClampNeg) :: st) h Q := w_ite rfl rfl rfl rfl rfl aArr_iff
set_option maxRecDepth 20000 in
theorem s300_1054 {d : Nat} {st : List Value} {h : aM} {Q : Option Value → aM → Prop} {v1 v2 v3 v4 v5 v6 : Option Value} {x : Nat} : AW d 300 1054 [some (.ref x), v1, v2, v3, v4, v5, v6] st h Q ↔ AW d 300 1055 [some (.ref x), v1, v2, v3, v4, v5, v6] (.ref x :: st) h Q := w_st rfl rfl rfl rfl rfl
set_option maxRecDepth 20000 in
theorem s300_1055 {d : Nat} {st : List Value} {h : aM} {Q : Option Value → aM → Prop} {v0 v1 v2 v3 v5 v6 : Option Value} {x : Int32} : AW d 300 1055 [v0, v1, v2, v3, some (.int x), v5, v6] st h Q ↔ AW d 300 1057 [v0, v1, v2, v3, some (.int x), v5, v6] (.int x :: st) h Q := w_st rfl rfl rfl rfl rfl
set_option maxRecDepth 20000 in
theorem s300_1057 {d : Nat} {st : List Value} {h : aM} {Q : Option Value → aM → Prop} {lv : aV} : AW d 300 1057 lv st h Q ↔ AW d 300 1058 lv (.int 2 :: st) h Q := w_st rfl rfl rfl rfl rfl
set_option maxRecDepth 20000 in
theorem s300_1058 {d : Nat} {st : List Value} {h : aM} {Q : Option Value → aM → Prop} {lv : aV} {x y : Int32} : AW d 300 1058 lv (.int y :: .int x :: st) h Q ↔ AW d 300 1059 lv (.int (x + y) :: st) h Q := w_st rfl rfl rfl rfl rfl
set_option maxRecDepth 20000 in
theorem s300_1059 {d : Nat} {st : List Value} {h : aM} {Q : Option Value → aM → Prop} {lv : aV} {a : Nat} {i : Int32} : AW d 300 1059 lv (.int i :: .ref a :: st) h Q ↔ inA h a 100 i ∧ AW d 300 1060 lv (.int (gi h a i.toNatClampNeg) :: st) h Q := w_ite rfl rfl rfl rfl rfl aArr_iff
set_option maxRecDepth 20000 in
theorem s300_1060 {d : Nat} {st : List Value} {h : aM} {Q : Option Value → aM → Prop} {lv : aV} {a : Nat} {x0 : Int32} {x1 : Int32} : AW (d + 1) 300 1060 lv (.int x1 :: .int x0 :: .ref a :: st) h Q ↔ (sh h a = some (11, 50) ∧ cs st ≤ 8) ∧ AW d 246 0 [some (.ref a), some (.int x0), some (.int x1), none] [] h (fun v h => AW (d + 1) 300 1063 lv (v.toList ++ st) h Q) := w_c (k := 300) (pc := 1060) (pc' := 1063) (as := [.ref a, .int x0, .int x1]) (st := st) (st' := (.int x1 :: .int x0 :: .ref a :: st)) (lv' := [some (.ref a), some (.int x0), some (.int x1), none]) (h := h) (r3 := 11) rfl rfl rfl mi246 rfl rfl (Nat.le_of_ble_eq_true rfl) (rc_v rfl) rfl rfl
set_option maxRecDepth 20000 in
theorem s300_1063 {d : Nat} {st : List Value} {h : aM} {Q : Option Value → aM → Prop} {lv : aV} {x y : Int32} : AW d 300 1063 lv (.int y :: .int x :: st) h Q ↔ if x = y then AW d 300 1703 lv st h Q else AW d 300 1066 lv st h Q := w_if rfl rfl rfl rfl rfl c2_eq
set_option maxRecDepth 20000 in
theorem s300_1066 {d : Nat} {st : List Value} {h : aM} {Q : Option Value → aM → Prop} {lv : aV} : AW d 300 1066 lv st h Q ↔ AW d 300 1067 lv (.int 0 :: st) h Q := w_st rfl rfl rfl rfl rfl
set_option maxRecDepth 20000 in
theorem s300_1067 {d : Nat} {h : aM} {Q : Option Value → aM → Prop} {lv : aV} {x : Int32} : AW d 300 1067 lv [.int x] h Q ↔ narrow .boolean (.int x) = .int x ∧ Q (some (.int x)) h := w_rz rfl rfl
set_option maxRecDepth 20000 in
theorem s300_1068 {d : Nat} {st : List Value} {h : aM} {Q : Option Value → aM → Prop} {v0 v2 v3 v4 v5 v6 : Option Value} {x : Nat} : AW d 300 1068 [v0, some (.ref x), v2, v3, v4, v5, v6] st h Q ↔ AW d 300 1069 [v0, some (.ref x), v2, v3, v4, v5, v6] (.ref x :: st) h Q := w_st rfl rfl rfl rfl rfl
set_option maxRecDepth 20000 in
theorem s300_1069 {d : Nat} {st : List Value} {h : aM} {Q : Option Value → aM → Prop} {v1 v2 v3 v4 v5 v6 : Option Value} {x : Nat} : AW d 300 1069 [some (.ref x), v1, v2, v3, v4, v5, v6] st h Q ↔ AW d 300 1070 [some (.ref x), v1, v2, v3, v4, v5, v6] (.ref x :: st) h Q := w_st rfl rfl rfl rfl rfl
set_option maxRecDepth 20000 in
theorem s300_1070 {d : Nat} {st : List Value} {h : aM} {Q : Option Value → aM → Prop} {v0 v1 v2 v3 v5 v6 : Option Value} {x : Int32} : AW d 300 1070 [v0, v1, v2, v3, some (.int x), v5, v6] st h Q ↔ AW d 300 1072 [v0, v1, v2, v3, some (.int x), v5, v6] (.int x :: st) h Q := w_st rfl rfl rfl rfl rfl
set_option maxRecDepth 20000 in
theorem s300_1072 {d : Nat} {st : List Value} {h : aM} {Q : Option Value → aM → Prop} {lv : aV} : AW d 300 1072 lv st h Q ↔ AW d 300 1073 lv (.int 1 :: st) h Q := w_st rfl rfl rfl rfl rfl
set_option maxRecDepth 20000 in
theorem s300_1073 {d : Nat} {st : List Value} {h : aM} {Q : Option Value → aM → Prop} {lv : aV} {x y : Int32} : AW d 300 1073 lv (.int y :: .int x :: st) h Q ↔ AW d 300 1074 lv (.int (x + y) :: st) h Q := w_st rfl rfl rfl rfl rfl
set_option maxRecDepth 20000 in
theorem s300_1074 {d : Nat} {st : List Value} {h : aM} {Q : Option Value → aM → Prop} {lv : aV} {a : Nat} {i : Int32} : AW d 300 1074 lv (.int i :: .ref a :: st) h Q ↔ inA h a 100 i ∧ AW d 300 1075 lv (.int (gi h a i.toNatClampNeg) :: st) h Q := w_ite rfl rfl rfl rfl rfl aArr_iff
set_option maxRecDepth 20000 in
theorem s300_1075 {d : Nat} {st : List Value} {h : aM} {Q : Option Value → aM → Prop} {v1 v2 v3 v4 v5 v6 : Option Value} {x : Nat} : AW d 300 1075 [some (.ref x), v1, v2, v3, v4, v5, v6] st h Q ↔ AW d 300 1076 [some (.ref x), v1, v2, v3, v4, v5, v6] (.ref x :: st) h Q := w_st rfl rfl rfl rfl rfl
set_option maxRecDepth 20000 in
theorem s300_1076 {d : Nat} {st : List Value} {h : aM} {Q : Option Value → aM → Prop} {v0 v1 v2 v3 v5 v6 : Option Value} {x : Int32} : AW d 300 1076 [v0, v1, v2, v3, some (.int x), v5, v6] st h Q ↔ AW d 300 1078 [v0, v1, v2, v3, some (.int x), v5, v6] (.int x :: st) h Q := w_st rfl rfl rfl rfl rfl
set_option maxRecDepth 20000 in
theorem s300_1078 {d : Nat} {st : List Value} {h : aM} {Q : Option Value → aM → Prop} {lv : aV} : AW d 300 1078 lv st h Q ↔ AW d 300 1079 lv (.int 2 :: st) h Q := w_st rfl rfl rfl rfl rfl
set_option maxRecDepth 20000 in
theorem s300_1079 {d : Nat} {st : List Value} {h : aM} {Q : Option Value → aM → Prop} {lv : aV} {x y : Int32} : AW d 300 1079 lv (.int y :: .int x :: st) h Q ↔ AW d 300 1080 lv (.int (x + y) :: st) h Q := w_st rfl rfl rfl rfl rfl
set_option maxRecDepth 20000 in
theorem s300_1080 {d : Nat} {st : List Value} {h : aM} {Q : Option Value → aM → Prop} {lv : aV} {a : Nat} {i : Int32} : AW d 300 1080 lv (.int i :: .ref a :: st) h Q ↔ inA h a 100 i ∧ AW d 300 1081 lv (.int (gi h a i.toNatClampNeg) :: st) h Q := w_ite rfl rfl rfl rfl rfl aArr_iff
set_option maxRecDepth 20000 in
theorem s300_1081 {d : Nat} {st : List Value} {h : aM} {Q : Option Value → aM → Prop} {lv : aV} {a : Nat} {x0 : Int32} {x1 : Int32} : AW (d + 1) 300 1081 lv (.int x1 :: .int x0 :: .ref a :: st) h Q ↔ (sh h a = some (10, 19) ∧ cs st ≤ 8) ∧ AW d 135 0 [some (.ref a), some (.int x0), some (.int x1), none, none, none] [] h (fun v h => AW (d + 1) 300 1084 lv (v.toList ++ st) h Q) := w_c (k := 300) (pc := 1081) (pc' := 1084) (as := [.ref a, .int x0, .int x1]) (st := st) (st' := (.int x1 :: .int x0 :: .ref a :: st)) (lv' := [some (.ref a), some (.int x0), some (.int x1), none, none, none]) (h := h) (r3 := 10) rfl rfl rfl mi135 rfl rfl (Nat.le_of_ble_eq_true rfl) (rc_v rfl) rfl rfl
set_option maxRecDepth 20000 in
theorem s300_1084 {d : Nat} {st : List Value} {h : aM} {Q : Option Value → aM → Prop} {v0 v1 v3 v4 v5 v6 : Option Value} {x : Nat} : AW d 300 1084 [v0, v1, some (.ref x), v3, v4, v5, v6] st h Q ↔ AW d 300 1085 [v0, v1, some (.ref x), v3, v4, v5, v6] (.ref x :: st) h Q := w_st rfl rfl rfl rfl rfl
set_option maxRecDepth 20000 in
theorem s300_1085 {d : Nat} {st : List Value} {h : aM} {Q : Option Value → aM → Prop} {v1 v2 v3 v4 v5 v6 : Option Value} {x : Nat} : AW d 300 1085 [some (.ref x), v1, v2, v3, v4, v5, v6] st h Q ↔ AW d 300 1086 [some (.ref x), v1, v2, v3, v4, v5, v6] (.ref x :: st) h Q := w_st rfl rfl rfl rfl rfl
set_option maxRecDepth 20000 in
theorem s300_1086 {d : Nat} {st : List Value} {h : aM} {Q : Option Value → aM → Prop} {v0 v1 v2 v3 v5 v6 : Option Value} {x : Int32} : AW d 300 1086 [v0, v1, v2, v3, some (.int x), v5, v6] st h Q ↔ AW d 300 1088 [v0, v1, v2, v3, some (.int x), v5, v6] (.int x :: st) h Q := w_st rfl rfl rfl rfl rfl
set_option maxRecDepth 20000 in
theorem s300_1088 {d : Nat} {st : List Value} {h : aM} {Q : Option Value → aM → Prop} {lv : aV} : AW d 300 1088 lv st h Q ↔ AW d 300 1089 lv (.int 1 :: st) h Q := w_st rfl rfl rfl rfl rfl
set_option maxRecDepth 20000 in
theorem s300_1089 {d : Nat} {st : List Value} {h : aM} {Q : Option Value → aM → Prop} {lv : aV} {x y : Int32} : AW d 300 1089 lv (.int y :: .int x :: st) h Q ↔ AW d 300 1090 lv (.int (x + y) :: st) h Q := w_st rfl rfl rfl rfl rfl
set_option maxRecDepth 20000 in
theorem s300_1090 {d : Nat} {st : List Value} {h : aM} {Q : Option Value → aM → Prop} {lv : aV} {a : Nat} {i : Int32} : AW d 300 1090 lv (.int i :: .ref a :: st) h Q ↔ inA h a 100 i ∧ AW d 300 1091 lv (.int (gi h a i.toNatClampNeg) :: st) h Q := w_ite rfl rfl rfl rfl rfl aArr_iff
set_option maxRecDepth 20000 in
theorem s300_1091 {d : Nat} {st : List Value} {h : aM} {Q : Option Value → aM → Prop} {v1 v2 v3 v4 v5 v6 : Option Value} {x : Nat} : AW d 300 1091 [some (.ref x), v1, v2, v3, v4, v5, v6] st h Q ↔ AW d 300 1092 [some (.ref x), v1, v2, v3, v4, v5, v6] (.ref x :: st) h Q := w_st rfl rfl rfl rfl rfl
set_option maxRecDepth 20000 in
theorem s300_1092 {d : Nat} {st : List Value} {h : aM} {Q : Option Value → aM → Prop} {v0 v1 v2 v3 v5 v6 : Option Value} {x : Int32} : AW d 300 1092 [v0, v1, v2, v3, some (.int x), v5, v6] st h Q ↔ AW d 300 1094 [v0, v1, v2, v3, some (.int x), v5, v6] (.int x :: st) h Q := w_st rfl rfl rfl rfl rfl
set_option maxRecDepth 20000 in
theorem s300_1094 {d : Nat} {st : List Value} {h : aM} {Q : Option Value → aM → Prop} {lv : aV} : AW d 300 1094 lv st h Q ↔ AW d 300 1095 lv (.int 2 :: st) h Q := w_st rfl rfl rfl rfl rfl
set_option maxRecDepth 20000 in
theorem s300_1095 {d : Nat} {st : List Value} {h : aM} {Q : Option Value → aM → Prop} {lv : aV} {x y : Int32} : AW d 300 1095 lv (.int y :: .int x :: st) h Q ↔ AW d 300 1096 lv (.int (x + y) :: st) h Q := w_st rfl rfl rfl rfl rfl
set_option maxRecDepth 20000 in
theorem s300_1096 {d : Nat} {st : List Value} {h : aM} {Q : Option Value → aM → Prop} {lv : aV} {a : Nat} {i : Int32} : AW d 300 1096 lv (.int i :: .ref a :: st) h Q ↔ inA h a 100 i ∧ AW d 300 1097 lv (.int (gi h a i.toNatClampNeg) :: st) h Q := w_ite rfl rfl rfl rfl rfl aArr_iff
set_option maxRecDepth 20000 in
theorem s300_1097 {d : Nat} {st : List Value} {h : aM} {Q : Option Value → aM → Prop} {lv : aV} {a : Nat} {x0 : Int32} {x1 : Int32} : AW (d + 1) 300 1097 lv (.int x1 :: .int x0 :: .ref a :: st) h Q ↔ (sh h a = some (11, 50) ∧ cs st ≤ 8) ∧ AW d 247 0 [some (.ref a), some (.int x0), some (.int x1), none] [] h (fun v h => AW (d + 1) 300 1100 lv (v.toList ++ st) h Q) := w_c (k := 300) (pc := 1097) (pc' := 1100) (as := [.ref a, .int x0, .int x1]) (st := st) (st' := (.int x1 :: .int x0 :: .ref a :: st)) (lv' := [some (.ref a), some (.int x0), some (.int x1), none]) (h := h) (r3 := 11) rfl rfl rfl mi247 rfl rfl (Nat.le_of_ble_eq_true rfl) (rc_v rfl) rfl rfl
set_option maxRecDepth 20000 in
theorem s300_1100 {d : Nat} {st : List Value} {h : aM} {Q : Option Value → aM → Prop} {lv : aV} {x y : Int32} : AW d 300 1100 lv (.int y :: .int x :: st) h Q ↔ if x = y then AW d 300 1703 lv st h Q else AW d 300 1103 lv st h Q := w_if rfl rfl rfl rfl rfl c2_eq
set_option maxRecDepth 20000 in
theorem s300_1103 {d : Nat} {st : List Value} {h : aM} {Q : Option Value → aM → Prop} {lv : aV} : AW d 300 1103 lv st h Q ↔ AW d 300 1104 lv (.int 0 :: st) h Q := w_st rfl rfl rfl rfl rfl
set_option maxRecDepth 20000 in
theorem s300_1104 {d : Nat} {h : aM} {Q : Option Value → aM → Prop} {lv : aV} {x : Int32} : AW d 300 1104 lv [.int x] h Q ↔ narrow .boolean (.int x) = .int x ∧ Q (some (.int x)) h := w_rz rfl rfl
set_option maxRecDepth 20000 in
theorem s300_1105 {d : Nat} {st : List Value} {h : aM} {Q : Option Value → aM → Prop} {v0 v2 v3 v4 v5 v6 : Option Value} {x : Nat} : AW d 300 1105 [v0, some (.ref x), v2, v3, v4, v5, v6] st h Q ↔ AW d 300 1106 [v0, some (.ref x), v2, v3, v4, v5, v6] (.ref x :: st) h Q := w_st rfl rfl rfl rfl rfl
set_option maxRecDepth 20000 in
theorem s300_1106 {d : Nat} {st : List Value} {h : aM} {Q : Option Value → aM → Prop} {v1 v2 v3 v4 v5 v6 : Option Value} {x : Nat} : AW d 300 1106 [some (.ref x), v1, v2, v3, v4, v5, v6] st h Q ↔ AW d 300 1107 [some (.ref x), v1, v2, v3, v4, v5, v6] (.ref x :: st) h Q := w_st rfl rfl rfl rfl rfl
set_option maxRecDepth 20000 in
theorem s300_1107 {d : Nat} {st : List Value} {h : aM} {Q : Option Value → aM → Prop} {v0 v1 v2 v3 v5 v6 : Option Value} {x : Int32} : AW d 300 1107 [v0, v1, v2, v3, some (.int x), v5, v6] st h Q ↔ AW d 300 1109 [v0, v1, v2, v3, some (.int x), v5, v6] (.int x :: st) h Q := w_st rfl rfl rfl rfl rfl
set_option maxRecDepth 20000 in
theorem s300_1109 {d : Nat} {st : List Value} {h : aM} {Q : Option Value → aM → Prop} {lv : aV} : AW d 300 1109 lv st h Q ↔ AW d 300 1110 lv (.int 1 :: st) h Q := w_st rfl rfl rfl rfl rfl
set_option maxRecDepth 20000 in
theorem s300_1110 {d : Nat} {st : List Value} {h : aM} {Q : Option Value → aM → Prop} {lv : aV} {x y : Int32} : AW d 300 1110 lv (.int y :: .int x :: st) h Q ↔ AW d 300 1111 lv (.int (x + y) :: st) h Q := w_st rfl rfl rfl rfl rfl
set_option maxRecDepth 20000 in
theorem s300_1111 {d : Nat} {st : List Value} {h : aM} {Q : Option Value → aM → Prop} {lv : aV} {a : Nat} {i : Int32} : AW d 300 1111 lv (.int i :: .ref a :: st) h Q ↔ inA h a 100 i ∧ AW d 300 1112 lv (.int (gi h a i.toNatClampNeg) :: st) h Q := w_ite rfl rfl rfl rfl rfl aArr_iff
set_option maxRecDepth 20000 in
theorem s300_1112 {d : Nat} {st : List Value} {h : aM} {Q : Option Value → aM → Prop} {lv : aV} {a : Nat} {x0 : Int32} : AW (d + 1) 300 1112 lv (.int x0 :: .ref a :: st) h Q ↔ (sh h a = some (10, 19) ∧ cs st ≤ 8) ∧ AW d 136 0 [some (.ref a), some (.int x0), none, none, none, none, none] [] h (fun v h => AW (d + 1) 300 1115 lv (v.toList ++ st) h Q) := w_c (k := 300) (pc := 1112) (pc' := 1115) (as := [.ref a, .int x0]) (st := st) (st' := (.int x0 :: .ref a :: st)) (lv' := [some (.ref a), some (.int x0), none, none, none, none, none]) (h := h) (r3 := 10) rfl rfl rfl mi136 rfl rfl (Nat.le_of_ble_eq_true rfl) (rc_v rfl) rfl rfl
set_option maxRecDepth 20000 in
theorem s300_1115 {d : Nat} {st : List Value} {h : aM} {Q : Option Value → aM → Prop} {v0 v1 v3 v4 v5 v6 : Option Value} {x : Nat} : AW d 300 1115 [v0, v1, some (.ref x), v3, v4, v5, v6] st h Q ↔ AW d 300 1116 [v0, v1, some (.ref x), v3, v4, v5, v6] (.ref x :: st) h Q := w_st rfl rfl rfl rfl rfl
set_option maxRecDepth 20000 in
theorem s300_1116 {d : Nat} {st : List Value} {h : aM} {Q : Option Value → aM → Prop} {v1 v2 v3 v4 v5 v6 : Option Value} {x : Nat} : AW d 300 1116 [some (.ref x), v1, v2, v3, v4, v5, v6] st h Q ↔ AW d 300 1117 [some (.ref x), v1, v2, v3, v4, v5, v6] (.ref x :: st) h Q := w_st rfl rfl rfl rfl rfl
set_option maxRecDepth 20000 in
theorem s300_1117 {d : Nat} {st : List Value} {h : aM} {Q : Option Value → aM → Prop} {v0 v1 v2 v3 v5 v6 : Option Value} {x : Int32} : AW d 300 1117 [v0, v1, v2, v3, some (.int x), v5, v6] st h Q ↔ AW d 300 1119 [v0, v1, v2, v3, some (.int x), v5, v6] (.int x :: st) h Q := w_st rfl rfl rfl rfl rfl
set_option maxRecDepth 20000 in
theorem s300_1119 {d : Nat} {st : List Value} {h : aM} {Q : Option Value → aM → Prop} {lv : aV} : AW d 300 1119 lv st h Q ↔ AW d 300 1120 lv (.int 1 :: st) h Q := w_st rfl rfl rfl rfl rfl
set_option maxRecDepth 20000 in
theorem s300_1120 {d : Nat} {st : List Value} {h : aM} {Q : Option Value → aM → Prop} {lv : aV} {x y : Int32} : AW d 300 1120 lv (.int y :: .int x :: st) h Q ↔ AW d 300 1121 lv (.int (x + y) :: st) h Q := w_st rfl rfl rfl rfl rfl
set_option maxRecDepth 20000 in
theorem s300_1121 {d : Nat} {st : List Value} {h : aM} {Q : Option Value → aM → Prop} {lv : aV} {a : Nat} {i : Int32} : AW d 300 1121 lv (.int i :: .ref a :: st) h Q ↔ inA h a 100 i ∧ AW d 300 1122 lv (.int (gi h a i.toNatClampNeg) :: st) h Q := w_ite rfl rfl rfl rfl rfl aArr_iff
set_option maxRecDepth 20000 in
theorem s300_1122 {d : Nat} {st : List Value} {h : aM} {Q : Option Value → aM → Prop} {lv : aV} {a : Nat} {x0 : Int32} : AW (d + 1) 300 1122 lv (.int x0 :: .ref a :: st) h Q ↔ (sh h a = some (11, 50) ∧ cs st ≤ 8) ∧ AW d 248 0 [some (.ref a), some (.int x0), none, none, none, none, none, none] [] h (fun v h => AW (d + 1) 300 1125 lv (v.toList ++ st) h Q) := w_c (k := 300) (pc := 1122) (pc' := 1125) (as := [.ref a, .int x0]) (st := st) (st' := (.int x0 :: .ref a :: st)) (lv' := [some (.ref a), some (.int x0), none, none, none, none, none, none]) (h := h) (r3 := 11) rfl rfl rfl mi248 rfl rfl (Nat.le_of_ble_eq_true rfl) (rc_v rfl) rfl rfl
set_option maxRecDepth 20000 in
theorem s300_1125 {d : Nat} {st : List Value} {h : aM} {Q : Option Value → aM → Prop} {lv : aV} {x y : Int32} : AW d 300 1125 lv (.int y :: .int x :: st) h Q ↔ if x = y then AW d 300 1703 lv st h Q else AW d 300 1128 lv st h Q := w_if rfl rfl rfl rfl rfl c2_eq
set_option maxRecDepth 20000 in
theorem s300_1128 {d : Nat} {st : List Value} {h : aM} {Q : Option Value → aM → Prop} {lv : aV} : AW d 300 1128 lv st h Q ↔ AW d 300 1129 lv (.int 0 :: st) h Q := w_st rfl rfl rfl rfl rfl
set_option maxRecDepth 20000 in
theorem s300_1129 {d : Nat} {h : aM} {Q : Option Value → aM → Prop} {lv : aV} {x : Int32} : AW d 300 1129 lv [.int x] h Q ↔ narrow .boolean (.int x) = .int x ∧ Q (some (.int x)) h := w_rz rfl rfl
set_option maxRecDepth 20000 in
theorem s300_1130 {d : Nat} {st : List Value} {h : aM} {Q : Option Value → aM → Prop} {v0 v2 v3 v4 v5 v6 : Option Value} {x : Nat} : AW d 300 1130 [v0, some (.ref x), v2, v3, v4, v5, v6] st h Q ↔ AW d 300 1131 [v0, some (.ref x), v2, v3, v4, v5, v6] (.ref x :: st) h Q := w_st rfl rfl rfl rfl rfl
set_option maxRecDepth 20000 in
theorem s300_1131 {d : Nat} {st : List Value} {h : aM} {Q : Option Value → aM → Prop} {v1 v2 v3 v4 v5 v6 : Option Value} {x : Nat} : AW d 300 1131 [some (.ref x), v1, v2, v3, v4, v5, v6] st h Q ↔ AW d 300 1132 [some (.ref x), v1, v2, v3, v4, v5, v6] (.ref x :: st) h Q := w_st rfl rfl rfl rfl rfl
set_option maxRecDepth 20000 in
theorem s300_1132 {d : Nat} {st : List Value} {h : aM} {Q : Option Value → aM → Prop} {v0 v1 v2 v3 v5 v6 : Option Value} {x : Int32} : AW d 300 1132 [v0, v1, v2, v3, some (.int x), v5, v6] st h Q ↔ AW d 300 1134 [v0, v1, v2, v3, some (.int x), v5, v6] (.int x :: st) h Q := w_st rfl rfl rfl rfl rfl
set_option maxRecDepth 20000 in
theorem s300_1134 {d : Nat} {st : List Value} {h : aM} {Q : Option Value → aM → Prop} {lv : aV} : AW d 300 1134 lv st h Q ↔ AW d 300 1135 lv (.int 1 :: st) h Q := w_st rfl rfl rfl rfl rfl
set_option maxRecDepth 20000 in
theorem s300_1135 {d : Nat} {st : List Value} {h : aM} {Q : Option Value → aM → Prop} {lv : aV} {x y : Int32} : AW d 300 1135 lv (.int y :: .int x :: st) h Q ↔ AW d 300 1136 lv (.int (x + y) :: st) h Q := w_st rfl rfl rfl rfl rfl
set_option maxRecDepth 20000 in
theorem s300_1136 {d : Nat} {st : List Value} {h : aM} {Q : Option Value → aM → Prop} {lv : aV} {a : Nat} {i : Int32} : AW d 300 1136 lv (.int i :: .ref a :: st) h Q ↔ inA h a 100 i ∧ AW d 300 1137 lv (.int (gi h a i.toNatClampNeg) :: st) h Q := w_ite rfl rfl rfl rfl rfl aArr_iff
set_option maxRecDepth 20000 in
theorem s300_1137 {d : Nat} {st : List Value} {h : aM} {Q : Option Value → aM → Prop} {lv : aV} {a : Nat} {x0 : Int32} : AW (d + 1) 300 1137 lv (.int x0 :: .ref a :: st) h Q ↔ (sh h a = some (10, 19) ∧ cs st ≤ 8) ∧ AW d 137 0 [some (.ref a), some (.int x0), none] [] h (fun v h => AW (d + 1) 300 1140 lv (v.toList ++ st) h Q) := w_c (k := 300) (pc := 1137) (pc' := 1140) (as := [.ref a, .int x0]) (st := st) (st' := (.int x0 :: .ref a :: st)) (lv' := [some (.ref a), some (.int x0), none]) (h := h) (r3 := 10) rfl rfl rfl mi137 rfl rfl (Nat.le_of_ble_eq_true rfl) (rc_v rfl) rfl rfl
set_option maxRecDepth 20000 in
theorem s300_1140 {d : Nat} {st : List Value} {h : aM} {Q : Option Value → aM → Prop} {v0 v1 v3 v4 v5 v6 : Option Value} {x : Nat} : AW d 300 1140 [v0, v1, some (.ref x), v3, v4, v5, v6] st h Q ↔ AW d 300 1141 [v0, v1, some (.ref x), v3, v4, v5, v6] (.ref x :: st) h Q := w_st rfl rfl rfl rfl rfl
set_option maxRecDepth 20000 in
theorem s300_1141 {d : Nat} {st : List Value} {h : aM} {Q : Option Value → aM → Prop} {v1 v2 v3 v4 v5 v6 : Option Value} {x : Nat} : AW d 300 1141 [some (.ref x), v1, v2, v3, v4, v5, v6] st h Q ↔ AW d 300 1142 [some (.ref x), v1, v2, v3, v4, v5, v6] (.ref x :: st) h Q := w_st rfl rfl rfl rfl rfl
set_option maxRecDepth 20000 in
theorem s300_1142 {d : Nat} {st : List Value} {h : aM} {Q : Option Value → aM → Prop} {v0 v1 v2 v3 v5 v6 : Option Value} {x : Int32} : AW d 300 1142 [v0, v1, v2, v3, some (.int x), v5, v6] st h Q ↔ AW d 300 1144 [v0, v1, v2, v3, some (.int x), v5, v6] (.int x :: st) h Q := w_st rfl rfl rfl rfl rfl
set_option maxRecDepth 20000 in
theorem s300_1144 {d : Nat} {st : List Value} {h : aM} {Q : Option Value → aM → Prop} {lv : aV} : AW d 300 1144 lv st h Q ↔ AW d 300 1145 lv (.int 1 :: st) h Q := w_st rfl rfl rfl rfl rfl
set_option maxRecDepth 20000 in
theorem s300_1145 {d : Nat} {st : List Value} {h : aM} {Q : Option Value → aM → Prop} {lv : aV} {x y : Int32} : AW d 300 1145 lv (.int y :: .int x :: st) h Q ↔ AW d 300 1146 lv (.int (x + y) :: st) h Q := w_st rfl rfl rfl rfl rfl
set_option maxRecDepth 20000 in
theorem s300_1146 {d : Nat} {st : List Value} {h : aM} {Q : Option Value → aM → Prop} {lv : aV} {a : Nat} {i : Int32} : AW d 300 1146 lv (.int i :: .ref a :: st) h Q ↔ inA h a 100 i ∧ AW d 300 1147 lv (.int (gi h a i.toNatClampNeg) :: st) h Q := w_ite rfl rfl rfl rfl rfl aArr_iff
set_option maxRecDepth 20000 in
theorem s300_1147 {d : Nat} {st : List Value} {h : aM} {Q : Option Value → aM → Prop} {lv : aV} {a : Nat} {x0 : Int32} : AW (d + 1) 300 1147 lv (.int x0 :: .ref a :: st) h Q ↔ (sh h a = some (11, 50) ∧ cs st ≤ 8) ∧ AW d 249 0 [some (.ref a), some (.int x0), none, none, none] [] h (fun v h => AW (d + 1) 300 1150 lv (v.toList ++ st) h Q) := w_c (k := 300) (pc := 1147) (pc' := 1150) (as := [.ref a, .int x0]) (st := st) (st' := (.int x0 :: .ref a :: st)) (lv' := [some (.ref a), some (.int x0), none, none, none]) (h := h) (r3 := 11) rfl rfl rfl mi249 rfl rfl (Nat.le_of_ble_eq_true rfl) (rc_v rfl) rfl rfl
set_option maxRecDepth 20000 in
theorem s300_1150 {d : Nat} {st : List Value} {h : aM} {Q : Option Value → aM → Prop} {lv : aV} {x y : Int32} : AW d 300 1150 lv (.int y :: .int x :: st) h Q ↔ if x = y then AW d 300 1703 lv st h Q else AW d 300 1153 lv st h Q := w_if rfl rfl rfl rfl rfl c2_eq
set_option maxRecDepth 20000 in
theorem s300_1153 {d : Nat} {st : List Value} {h : aM} {Q : Option Value → aM → Prop} {lv : aV} : AW d 300 1153 lv st h Q ↔ AW d 300 1154 lv (.int 0 :: st) h Q := w_st rfl rfl rfl rfl rfl
set_option maxRecDepth 20000 in
theorem s300_1154 {d : Nat} {h : aM} {Q : Option Value → aM → Prop} {lv : aV} {x : Int32} : AW d 300 1154 lv [.int x] h Q ↔ narrow .boolean (.int x) = .int x ∧ Q (some (.int x)) h := w_rz rfl rfl
set_option maxRecDepth 20000 in
theorem s300_1155 {d : Nat} {st : List Value} {h : aM} {Q : Option Value → aM → Prop} {v0 v2 v3 v4 v5 v6 : Option Value} {x : Nat} : AW d 300 1155 [v0, some (.ref x), v2, v3, v4, v5, v6] st h Q ↔ AW d 300 1156 [v0, some (.ref x), v2, v3, v4, v5, v6] (.ref x :: st) h Q := w_st rfl rfl rfl rfl rfl
set_option maxRecDepth 20000 in
theorem s300_1156 {d : Nat} {st : List Value} {h : aM} {Q : Option Value → aM → Prop} {v1 v2 v3 v4 v5 v6 : Option Value} {x : Nat} : AW d 300 1156 [some (.ref x), v1, v2, v3, v4, v5, v6] st h Q ↔ AW d 300 1157 [some (.ref x), v1, v2, v3, v4, v5, v6] (.ref x :: st) h Q := w_st rfl rfl rfl rfl rfl
set_option maxRecDepth 20000 in
theorem s300_1157 {d : Nat} {st : List Value} {h : aM} {Q : Option Value → aM → Prop} {v0 v1 v2 v3 v5 v6 : Option Value} {x : Int32} : AW d 300 1157 [v0, v1, v2, v3, some (.int x), v5, v6] st h Q ↔ AW d 300 1159 [v0, v1, v2, v3, some (.int x), v5, v6] (.int x :: st) h Q := w_st rfl rfl rfl rfl rfl
set_option maxRecDepth 20000 in
theorem s300_1159 {d : Nat} {st : List Value} {h : aM} {Q : Option Value → aM → Prop} {lv : aV} : AW d 300 1159 lv st h Q ↔ AW d 300 1160 lv (.int 1 :: st) h Q := w_st rfl rfl rfl rfl rfl
set_option maxRecDepth 20000 in
theorem s300_1160 {d : Nat} {st : List Value} {h : aM} {Q : Option Value → aM → Prop} {lv : aV} {x y : Int32} : AW d 300 1160 lv (.int y :: .int x :: st) h Q ↔ AW d 300 1161 lv (.int (x + y) :: st) h Q := w_st rfl rfl rfl rfl rfl
set_option maxRecDepth 20000 in
theorem s300_1161 {d : Nat} {st : List Value} {h : aM} {Q : Option Value → aM → Prop} {lv : aV} {a : Nat} {i : Int32} : AW d 300 1161 lv (.int i :: .ref a :: st) h Q ↔ inA h a 100 i ∧ AW d 300 1162 lv (.int (gi h a i.toNatClampNeg) :: st) h Q := w_ite rfl rfl rfl rfl rfl aArr_iff
set_option maxRecDepth 20000 in
theorem s300_1162 {d : Nat} {st : List Value} {h : aM} {Q : Option Value → aM → Prop} {v1 v2 v3 v4 v5 v6 : Option Value} {x : Nat} : AW d 300 1162 [some (.ref x), v1, v2, v3, v4, v5, v6] st h Q ↔ AW d 300 1163 [some (.ref x), v1, v2, v3, v4, v5, v6] (.ref x :: st) h Q := w_st rfl rfl rfl rfl rfl
set_option maxRecDepth 20000 in
theorem s300_1163 {d : Nat} {st : List Value} {h : aM} {Q : Option Value → aM → Prop} {v0 v1 v2 v3 v5 v6 : Option Value} {x : Int32} : AW d 300 1163 [v0, v1, v2, v3, some (.int x), v5, v6] st h Q ↔ AW d 300 1165 [v0, v1, v2, v3, some (.int x), v5, v6] (.int x :: st) h Q := w_st rfl rfl rfl rfl rfl
set_option maxRecDepth 20000 in
theorem s300_1165 {d : Nat} {st : List Value} {h : aM} {Q : Option Value → aM → Prop} {lv : aV} : AW d 300 1165 lv st h Q ↔ AW d 300 1166 lv (.int 2 :: st) h Q := w_st rfl rfl rfl rfl rfl
set_option maxRecDepth 20000 in
theorem s300_1166 {d : Nat} {st : List Value} {h : aM} {Q : Option Value → aM → Prop} {lv : aV} {x y : Int32} : AW d 300 1166 lv (.int y :: .int x :: st) h Q ↔ AW d 300 1167 lv (.int (x + y) :: st) h Q := w_st rfl rfl rfl rfl rfl
set_option maxRecDepth 20000 in
theorem s300_1167 {d : Nat} {st : List Value} {h : aM} {Q : Option Value → aM → Prop} {lv : aV} {a : Nat} {i : Int32} : AW d 300 1167 lv (.int i :: .ref a :: st) h Q ↔ inA h a 100 i ∧ AW d 300 1168 lv (.int (gi h a i.toNatClampNeg) :: st) h Q := w_ite rfl rfl rfl rfl rfl aArr_iff
set_option maxRecDepth 20000 in
theorem s300_1168 {d : Nat} {st : List Value} {h : aM} {Q : Option Value → aM → Prop} {v1 v2 v3 v4 v5 v6 : Option Value} {x : Nat} : AW d 300 1168 [some (.ref x), v1, v2, v3, v4, v5, v6] st h Q ↔ AW d 300 1169 [some (.ref x), v1, v2, v3, v4, v5, v6] (.ref x :: st) h Q := w_st rfl rfl rfl rfl rfl
set_option maxRecDepth 20000 in
theorem s300_1169 {d : Nat} {st : List Value} {h : aM} {Q : Option Value → aM → Prop} {v0 v1 v2 v3 v5 v6 : Option Value} {x : Int32} : AW d 300 1169 [v0, v1, v2, v3, some (.int x), v5, v6] st h Q ↔ AW d 300 1171 [v0, v1, v2, v3, some (.int x), v5, v6] (.int x :: st) h Q := w_st rfl rfl rfl rfl rfl
set_option maxRecDepth 20000 in
theorem s300_1171 {d : Nat} {st : List Value} {h : aM} {Q : Option Value → aM → Prop} {lv : aV} : AW d 300 1171 lv st h Q ↔ AW d 300 1172 lv (.int 3 :: st) h Q := w_st rfl rfl rfl rfl rfl
set_option maxRecDepth 20000 in
theorem s300_1172 {d : Nat} {st : List Value} {h : aM} {Q : Option Value → aM → Prop} {lv : aV} {x y : Int32} : AW d 300 1172 lv (.int y :: .int x :: st) h Q ↔ AW d 300 1173 lv (.int (x + y) :: st) h Q := w_st rfl rfl rfl rfl rfl
set_option maxRecDepth 20000 in
theorem s300_1173 {d : Nat} {st : List Value} {h : aM} {Q : Option Value → aM → Prop} {lv : aV} {a : Nat} {i : Int32} : AW d 300 1173 lv (.int i :: .ref a :: st) h Q ↔ inA h a 100 i ∧ AW d 300 1174 lv (.int (gi h a i.toNatClampNeg) :: st) h Q := w_ite rfl rfl rfl rfl rfl aArr_iff
set_option maxRecDepth 20000 in
theorem s300_1174 {d : Nat} {st : List Value} {h : aM} {Q : Option Value → aM → Prop} {lv : aV} {x : Int32} : AW d 300 1174 lv (.int x :: st) h Q ↔ if x = 0 then AW d 300 1181 lv st h Q else AW d 300 1177 lv st h Q := w_if rfl rfl rfl rfl rfl c0_eq
set_option maxRecDepth 20000 in
theorem s300_1177 {d : Nat} {st : List Value} {h : aM} {Q : Option Value → aM → Prop} {lv : aV} : AW d 300 1177 lv st h Q ↔ AW d 300 1178 lv (.int 1 :: st) h Q := w_st rfl rfl rfl rfl rfl
set_option maxRecDepth 20000 in
theorem s300_1178 {d : Nat} {st : List Value} {h : aM} {Q : Option Value → aM → Prop} {lv : aV} : AW d 300 1178 lv st h Q ↔ AW d 300 1182 lv st h Q := w_st rfl rfl rfl rfl rfl
set_option maxRecDepth 20000 in
theorem s300_1181 {d : Nat} {st : List Value} {h : aM} {Q : Option Value → aM → Prop} {lv : aV} : AW d 300 1181 lv st h Q ↔ AW d 300 1182 lv (.int 0 :: st) h Q := w_st rfl rfl rfl rfl rfl
set_option maxRecDepth 20000 in
theorem s300_1182 {d : Nat} {st : List Value} {h : aM} {Q : Option Value → aM → Prop} {lv : aV} {a : Nat} {x0 : Int32} {x1 : Int32} {x2 : Int32} : AW (d + 1) 300 1182 lv (.int x2 :: .int x1 :: .int x0 :: .ref a :: st) h Q ↔ (sh h a = some (10, 19) ∧ cs st ≤ 8) ∧ AW d 138 0 [some (.ref a), some (.int x0), some (.int x1), some (.int x2)] [] h (fun v h => AW (d + 1) 300 1185 lv (v.toList ++ st) h Q) := w_c (k := 300) (pc := 1182) (pc' := 1185) (as := [.ref a, .int x0, .int x1, .int x2]) (st := st) (st' := (.int x2 :: .int x1 :: .int x0 :: .ref a :: st)) (lv' := [some (.ref a), some (.int x0), some (.int x1), some (.int x2)]) (h := h) (r3 := 10) rfl rfl rfl mi138 rfl rfl (Nat.le_of_ble_eq_true rfl) (rc_v rfl) rfl rfl
set_option maxRecDepth 20000 in
theorem s300_1185 {d : Nat} {st : List Value} {h : aM} {Q : Option Value → aM → Prop} {v0 v1 v3 v4 v5 v6 : Option Value} {x : Nat} : AW d 300 1185 [v0, v1, some (.ref x), v3, v4, v5, v6] st h Q ↔ AW d 300 1186 [v0, v1, some (.ref x), v3, v4, v5, v6] (.ref x :: st) h Q := w_st rfl rfl rfl rfl rfl
set_option maxRecDepth 20000 in
theorem s300_1186 {d : Nat} {st : List Value} {h : aM} {Q : Option Value → aM → Prop} {v1 v2 v3 v4 v5 v6 : Option Value} {x : Nat} : AW d 300 1186 [some (.ref x), v1, v2, v3, v4, v5, v6] st h Q ↔ AW d 300 1187 [some (.ref x), v1, v2, v3, v4, v5, v6] (.ref x :: st) h Q := w_st rfl rfl rfl rfl rfl
set_option maxRecDepth 20000 in
theorem s300_1187 {d : Nat} {st : List Value} {h : aM} {Q : Option Value → aM → Prop} {v0 v1 v2 v3 v5 v6 : Option Value} {x : Int32} : AW d 300 1187 [v0, v1, v2, v3, some (.int x), v5, v6] st h Q ↔ AW d 300 1189 [v0, v1, v2, v3, some (.int x), v5, v6] (.int x :: st) h Q := w_st rfl rfl rfl rfl rfl
set_option maxRecDepth 20000 in
theorem s300_1189 {d : Nat} {st : List Value} {h : aM} {Q : Option Value → aM → Prop} {lv : aV} : AW d 300 1189 lv st h Q ↔ AW d 300 1190 lv (.int 1 :: st) h Q := w_st rfl rfl rfl rfl rfl
set_option maxRecDepth 20000 in
theorem s300_1190 {d : Nat} {st : List Value} {h : aM} {Q : Option Value → aM → Prop} {lv : aV} {x y : Int32} : AW d 300 1190 lv (.int y :: .int x :: st) h Q ↔ AW d 300 1191 lv (.int (x + y) :: st) h Q := w_st rfl rfl rfl rfl rfl
set_option maxRecDepth 20000 in
theorem s300_1191 {d : Nat} {st : List Value} {h : aM} {Q : Option Value → aM → Prop} {lv : aV} {a : Nat} {i : Int32} : AW d 300 1191 lv (.int i :: .ref a :: st) h Q ↔ inA h a 100 i ∧ AW d 300 1192 lv (.int (gi h a i.toNatClampNeg) :: st) h Q := w_ite rfl rfl rfl rfl rfl aArr_iff
set_option maxRecDepth 20000 in
theorem s300_1192 {d : Nat} {st : List Value} {h : aM} {Q : Option Value → aM → Prop} {v1 v2 v3 v4 v5 v6 : Option Value} {x : Nat} : AW d 300 1192 [some (.ref x), v1, v2, v3, v4, v5, v6] st h Q ↔ AW d 300 1193 [some (.ref x), v1, v2, v3, v4, v5, v6] (.ref x :: st) h Q := w_st rfl rfl rfl rfl rfl
set_option maxRecDepth 20000 in
theorem s300_1193 {d : Nat} {st : List Value} {h : aM} {Q : Option Value → aM → Prop} {v0 v1 v2 v3 v5 v6 : Option Value} {x : Int32} : AW d 300 1193 [v0, v1, v2, v3, some (.int x), v5, v6] st h Q ↔ AW d 300 1195 [v0, v1, v2, v3, some (.int x), v5, v6] (.int x :: st) h Q := w_st rfl rfl rfl rfl rfl
set_option maxRecDepth 20000 in
theorem s300_1195 {d : Nat} {st : List Value} {h : aM} {Q : Option Value → aM → Prop} {lv : aV} : AW d 300 1195 lv st h Q ↔ AW d 300 1196 lv (.int 2 :: st) h Q := w_st rfl rfl rfl rfl rfl
set_option maxRecDepth 20000 in
theorem s300_1196 {d : Nat} {st : List Value} {h : aM} {Q : Option Value → aM → Prop} {lv : aV} {x y : Int32} : AW d 300 1196 lv (.int y :: .int x :: st) h Q ↔ AW d 300 1197 lv (.int (x + y) :: st) h Q := w_st rfl rfl rfl rfl rfl
set_option maxRecDepth 20000 in
theorem s300_1197 {d : Nat} {st : List Value} {h : aM} {Q : Option Value → aM → Prop} {lv : aV} {a : Nat} {i : Int32} : AW d 300 1197 lv (.int i :: .ref a :: st) h Q ↔ inA h a 100 i ∧ AW d 300 1198 lv (.int (gi h a i.toNatClampNeg) :: st) h Q := w_ite rfl rfl rfl rfl rfl aArr_iff
set_option maxRecDepth 20000 in
theorem s300_1198 {d : Nat} {st : List Value} {h : aM} {Q : Option Value → aM → Prop} {v1 v2 v3 v4 v5 v6 : Option Value} {x : Nat} : AW d 300 1198 [some (.ref x), v1, v2, v3, v4, v5, v6] st h Q ↔ AW d 300 1199 [some (.ref x), v1, v2, v3, v4, v5, v6] (.ref x :: st) h Q := w_st rfl rfl rfl rfl rfl
set_option maxRecDepth 20000 in
theorem s300_1199 {d : Nat} {st : List Value} {h : aM} {Q : Option Value → aM → Prop} {v0 v1 v2 v3 v5 v6 : Option Value} {x : Int32} : AW d 300 1199 [v0, v1, v2, v3, some (.int x), v5, v6] st h Q ↔ AW d 300 1201 [v0, v1, v2, v3, some (.int x), v5, v6] (.int x :: st) h Q := w_st rfl rfl rfl rfl rfl
set_option maxRecDepth 20000 in
theorem s300_1201 {d : Nat} {st : List Value} {h : aM} {Q : Option Value → aM → Prop} {lv : aV} : AW d 300 1201 lv st h Q ↔ AW d 300 1202 lv (.int 3 :: st) h Q := w_st rfl rfl rfl rfl rfl
set_option maxRecDepth 20000 in
theorem s300_1202 {d : Nat} {st : List Value} {h : aM} {Q : Option Value → aM → Prop} {lv : aV} {x y : Int32} : AW d 300 1202 lv (.int y :: .int x :: st) h Q ↔ AW d 300 1203 lv (.int (x + y) :: st) h Q := w_st rfl rfl rfl rfl rfl
set_option maxRecDepth 20000 in
theorem s300_1203 {d : Nat} {st : List Value} {h : aM} {Q : Option Value → aM → Prop} {lv : aV} {a : Nat} {i : Int32} : AW d 300 1203 lv (.int i :: .ref a :: st) h Q ↔ inA h a 100 i ∧ AW d 300 1204 lv (.int (gi h a i.toNatClampNeg) :: st) h Q := w_ite rfl rfl rfl rfl rfl aArr_iff
set_option maxRecDepth 20000 in
theorem s300_1204 {d : Nat} {st : List Value} {h : aM} {Q : Option Value → aM → Prop} {lv : aV} {x : Int32} : AW d 300 1204 lv (.int x :: st) h Q ↔ if x = 0 then AW d 300 1211 lv st h Q else AW d 300 1207 lv st h Q := w_if rfl rfl rfl rfl rfl c0_eq
set_option maxRecDepth 20000 in
theorem s300_1207 {d : Nat} {st : List Value} {h : aM} {Q : Option Value → aM → Prop} {lv : aV} : AW d 300 1207 lv st h Q ↔ AW d 300 1208 lv (.int 1 :: st) h Q := w_st rfl rfl rfl rfl rfl
set_option maxRecDepth 20000 in
theorem s300_1208 {d : Nat} {st : List Value} {h : aM} {Q : Option Value → aM → Prop} {lv : aV} : AW d 300 1208 lv st h Q ↔ AW d 300 1212 lv st h Q := w_st rfl rfl rfl rfl rfl
set_option maxRecDepth 20000 in
theorem s300_1211 {d : Nat} {st : List Value} {h : aM} {Q : Option Value → aM → Prop} {lv : aV} : AW d 300 1211 lv st h Q ↔ AW d 300 1212 lv (.int 0 :: st) h Q := w_st rfl rfl rfl rfl rfl
set_option maxRecDepth 20000 in
theorem s300_1212 {d : Nat} {st : List Value} {h : aM} {Q : Option Value → aM → Prop} {lv : aV} {a : Nat} {x0 : Int32} {x1 : Int32} {x2 : Int32} : AW (d + 1) 300 1212 lv (.int x2 :: .int x1 :: .int x0 :: .ref a :: st) h Q ↔ (sh h a = some (11, 50) ∧ cs st ≤ 8) ∧ AW d 250 0 [some (.ref a), some (.int x0), some (.int x1), some (.int x2)] [] h (fun v h => AW (d + 1) 300 1215 lv (v.toList ++ st) h Q) := w_c (k := 300) (pc := 1212) (pc' := 1215) (as := [.ref a, .int x0, .int x1, .int x2]) (st := st) (st' := (.int x2 :: .int x1 :: .int x0 :: .ref a :: st)) (lv' := [some (.ref a), some (.int x0), some (.int x1), some (.int x2)]) (h := h) (r3 := 11) rfl rfl rfl mi250 rfl rfl (Nat.le_of_ble_eq_true rfl) (rc_v rfl) rfl rfl
set_option maxRecDepth 20000 in
theorem s300_1215 {d : Nat} {st : List Value} {h : aM} {Q : Option Value → aM → Prop} {lv : aV} {x y : Int32} : AW d 300 1215 lv (.int y :: .int x :: st) h Q ↔ if x = y then AW d 300 1703 lv st h Q else AW d 300 1218 lv st h Q := w_if rfl rfl rfl rfl rfl c2_eq
set_option maxRecDepth 20000 in
theorem s300_1218 {d : Nat} {st : List Value} {h : aM} {Q : Option Value → aM → Prop} {lv : aV} : AW d 300 1218 lv st h Q ↔ AW d 300 1219 lv (.int 0 :: st) h Q := w_st rfl rfl rfl rfl rfl
set_option maxRecDepth 20000 in
theorem s300_1219 {d : Nat} {h : aM} {Q : Option Value → aM → Prop} {lv : aV} {x : Int32} : AW d 300 1219 lv [.int x] h Q ↔ narrow .boolean (.int x) = .int x ∧ Q (some (.int x)) h := w_rz rfl rfl
set_option maxRecDepth 20000 in
theorem s300_1220 {d : Nat} {st : List Value} {h : aM} {Q : Option Value → aM → Prop} {v0 v2 v3 v4 v5 v6 : Option Value} {x : Nat} : AW d 300 1220 [v0, some (.ref x), v2, v3, v4, v5, v6] st h Q ↔ AW d 300 1221 [v0, some (.ref x), v2, v3, v4, v5, v6] (.ref x :: st) h Q := w_st rfl rfl rfl rfl rfl
set_option maxRecDepth 20000 in
theorem s300_1221 {d : Nat} {st : List Value} {h : aM} {Q : Option Value → aM → Prop} {v1 v2 v3 v4 v5 v6 : Option Value} {x : Nat} : AW d 300 1221 [some (.ref x), v1, v2, v3, v4, v5, v6] st h Q ↔ AW d 300 1222 [some (.ref x), v1, v2, v3, v4, v5, v6] (.ref x :: st) h Q := w_st rfl rfl rfl rfl rfl
set_option maxRecDepth 20000 in
theorem s300_1222 {d : Nat} {st : List Value} {h : aM} {Q : Option Value → aM → Prop} {v0 v1 v2 v3 v5 v6 : Option Value} {x : Int32} : AW d 300 1222 [v0, v1, v2, v3, some (.int x), v5, v6] st h Q ↔ AW d 300 1224 [v0, v1, v2, v3, some (.int x), v5, v6] (.int x :: st) h Q := w_st rfl rfl rfl rfl rfl
set_option maxRecDepth 20000 in
theorem s300_1224 {d : Nat} {st : List Value} {h : aM} {Q : Option Value → aM → Prop} {lv : aV} : AW d 300 1224 lv st h Q ↔ AW d 300 1225 lv (.int 1 :: st) h Q := w_st rfl rfl rfl rfl rfl
set_option maxRecDepth 20000 in
theorem s300_1225 {d : Nat} {st : List Value} {h : aM} {Q : Option Value → aM → Prop} {lv : aV} {x y : Int32} : AW d 300 1225 lv (.int y :: .int x :: st) h Q ↔ AW d 300 1226 lv (.int (x + y) :: st) h Q := w_st rfl rfl rfl rfl rfl
set_option maxRecDepth 20000 in
theorem s300_1226 {d : Nat} {st : List Value} {h : aM} {Q : Option Value → aM → Prop} {lv : aV} {a : Nat} {i : Int32} : AW d 300 1226 lv (.int i :: .ref a :: st) h Q ↔ inA h a 100 i ∧ AW d 300 1227 lv (.int (gi h a i.toNatClampNeg) :: st) h Q := w_ite rfl rfl rfl rfl rfl aArr_iff
set_option maxRecDepth 20000 in
theorem s300_1227 {d : Nat} {st : List Value} {h : aM} {Q : Option Value → aM → Prop} {v1 v2 v3 v4 v5 v6 : Option Value} {x : Nat} : AW d 300 1227 [some (.ref x), v1, v2, v3, v4, v5, v6] st h Q ↔ AW d 300 1228 [some (.ref x), v1, v2, v3, v4, v5, v6] (.ref x :: st) h Q := w_st rfl rfl rfl rfl rfl
set_option maxRecDepth 20000 in
theorem s300_1228 {d : Nat} {st : List Value} {h : aM} {Q : Option Value → aM → Prop} {v0 v1 v2 v3 v5 v6 : Option Value} {x : Int32} : AW d 300 1228 [v0, v1, v2, v3, some (.int x), v5, v6] st h Q ↔ AW d 300 1230 [v0, v1, v2, v3, some (.int x), v5, v6] (.int x :: st) h Q := w_st rfl rfl rfl rfl rfl
set_option maxRecDepth 20000 in
theorem s300_1230 {d : Nat} {st : List Value} {h : aM} {Q : Option Value → aM → Prop} {lv : aV} : AW d 300 1230 lv st h Q ↔ AW d 300 1231 lv (.int 2 :: st) h Q := w_st rfl rfl rfl rfl rfl
set_option maxRecDepth 20000 in
theorem s300_1231 {d : Nat} {st : List Value} {h : aM} {Q : Option Value → aM → Prop} {lv : aV} {x y : Int32} : AW d 300 1231 lv (.int y :: .int x :: st) h Q ↔ AW d 300 1232 lv (.int (x + y) :: st) h Q := w_st rfl rfl rfl rfl rfl
set_option maxRecDepth 20000 in
theorem s300_1232 {d : Nat} {st : List Value} {h : aM} {Q : Option Value → aM → Prop} {lv : aV} {a : Nat} {i : Int32} : AW d 300 1232 lv (.int i :: .ref a :: st) h Q ↔ inA h a 100 i ∧ AW d 300 1233 lv (.int (gi h a i.toNatClampNeg) :: st) h Q := w_ite rfl rfl rfl rfl rfl aArr_iff
set_option maxRecDepth 20000 in
theorem s300_1233 {d : Nat} {st : List Value} {h : aM} {Q : Option Value → aM → Prop} {lv : aV} {a : Nat} {x0 : Int32} {x1 : Int32} : AW (d + 1) 300 1233 lv (.int x1 :: .int x0 :: .ref a :: st) h Q ↔ (sh h a = some (10, 19) ∧ cs st ≤ 8) ∧ AW d 139 0 [some (.ref a), some (.int x0), some (.int x1)] [] h (fun v h => AW (d + 1) 300 1236 lv (v.toList ++ st) h Q) := w_c (k := 300) (pc := 1233) (pc' := 1236) (as := [.ref a, .int x0, .int x1]) (st := st) (st' := (.int x1 :: .int x0 :: .ref a :: st)) (lv' := [some (.ref a), some (.int x0), some (.int x1)]) (h := h) (r3 := 10) rfl rfl rfl mi139 rfl rfl (Nat.le_of_ble_eq_true rfl) (rc_v rfl) rfl rfl
set_option maxRecDepth 20000 in
theorem s300_1236 {d : Nat} {st : List Value} {h : aM} {Q : Option Value → aM → Prop} {v0 v1 v3 v4 v5 v6 : Option Value} {x : Nat} : AW d 300 1236 [v0, v1, some (.ref x), v3, v4, v5, v6] st h Q ↔ AW d 300 1237 [v0, v1, some (.ref x), v3, v4, v5, v6] (.ref x :: st) h Q := w_st rfl rfl rfl rfl rfl
set_option maxRecDepth 20000 in
theorem s300_1237 {d : Nat} {st : List Value} {h : aM} {Q : Option Value → aM → Prop} {v1 v2 v3 v4 v5 v6 : Option Value} {x : Nat} : AW d 300 1237 [some (.ref x), v1, v2, v3, v4, v5, v6] st h Q ↔ AW d 300 1238 [some (.ref x), v1, v2, v3, v4, v5, v6] (.ref x :: st) h Q := w_st rfl rfl rfl rfl rfl
set_option maxRecDepth 20000 in
theorem s300_1238 {d : Nat} {st : List Value} {h : aM} {Q : Option Value → aM → Prop} {v0 v1 v2 v3 v5 v6 : Option Value} {x : Int32} : AW d 300 1238 [v0, v1, v2, v3, some (.int x), v5, v6] st h Q ↔ AW d 300 1240 [v0, v1, v2, v3, some (.int x), v5, v6] (.int x :: st) h Q := w_st rfl rfl rfl rfl rfl
set_option maxRecDepth 20000 in
theorem s300_1240 {d : Nat} {st : List Value} {h : aM} {Q : Option Value → aM → Prop} {lv : aV} : AW d 300 1240 lv st h Q ↔ AW d 300 1241 lv (.int 1 :: st) h Q := w_st rfl rfl rfl rfl rfl
set_option maxRecDepth 20000 in
theorem s300_1241 {d : Nat} {st : List Value} {h : aM} {Q : Option Value → aM → Prop} {lv : aV} {x y : Int32} : AW d 300 1241 lv (.int y :: .int x :: st) h Q ↔ AW d 300 1242 lv (.int (x + y) :: st) h Q := w_st rfl rfl rfl rfl rfl
set_option maxRecDepth 20000 in
theorem s300_1242 {d : Nat} {st : List Value} {h : aM} {Q : Option Value → aM → Prop} {lv : aV} {a : Nat} {i : Int32} : AW d 300 1242 lv (.int i :: .ref a :: st) h Q ↔ inA h a 100 i ∧ AW d 300 1243 lv (.int (gi h a i.toNatClampNeg) :: st) h Q := w_ite rfl rfl rfl rfl rfl aArr_iff
set_option maxRecDepth 20000 in
theorem s300_1243 {d : Nat} {st : List Value} {h : aM} {Q : Option Value → aM → Prop} {v1 v2 v3 v4 v5 v6 : Option Value} {x : Nat} : AW d 300 1243 [some (.ref x), v1, v2, v3, v4, v5, v6] st h Q ↔ AW d 300 1244 [some (.ref x), v1, v2, v3, v4, v5, v6] (.ref x :: st) h Q := w_st rfl rfl rfl rfl rfl
set_option maxRecDepth 20000 in
theorem s300_1244 {d : Nat} {st : List Value} {h : aM} {Q : Option Value → aM → Prop} {v0 v1 v2 v3 v5 v6 : Option Value} {x : Int32} : AW d 300 1244 [v0, v1, v2, v3, some (.int x), v5, v6] st h Q ↔ AW d 300 1246 [v0, v1, v2, v3, some (.int x), v5, v6] (.int x :: st) h Q := w_st rfl rfl rfl rfl rfl
set_option maxRecDepth 20000 in
theorem s300_1246 {d : Nat} {st : List Value} {h : aM} {Q : Option Value → aM → Prop} {lv : aV} : AW d 300 1246 lv st h Q ↔ AW d 300 1247 lv (.int 2 :: st) h Q := w_st rfl rfl rfl rfl rfl
set_option maxRecDepth 20000 in
theorem s300_1247 {d : Nat} {st : List Value} {h : aM} {Q : Option Value → aM → Prop} {lv : aV} {x y : Int32} : AW d 300 1247 lv (.int y :: .int x :: st) h Q ↔ AW d 300 1248 lv (.int (x + y) :: st) h Q := w_st rfl rfl rfl rfl rfl
set_option maxRecDepth 20000 in
theorem s300_1248 {d : Nat} {st : List Value} {h : aM} {Q : Option Value → aM → Prop} {lv : aV} {a : Nat} {i : Int32} : AW d 300 1248 lv (.int i :: .ref a :: st) h Q ↔ inA h a 100 i ∧ AW d 300 1249 lv (.int (gi h a i.toNatClampNeg) :: st) h Q := w_ite rfl rfl rfl rfl rfl aArr_iff
set_option maxRecDepth 20000 in
theorem s300_1249 {d : Nat} {st : List Value} {h : aM} {Q : Option Value → aM → Prop} {lv : aV} {a : Nat} {x0 : Int32} {x1 : Int32} : AW (d + 1) 300 1249 lv (.int x1 :: .int x0 :: .ref a :: st) h Q ↔ (sh h a = some (11, 50) ∧ cs st ≤ 8) ∧ AW d 255 0 [some (.ref a), some (.int x0), some (.int x1), none, none] [] h (fun v h => AW (d + 1) 300 1252 lv (v.toList ++ st) h Q) := w_c (k := 300) (pc := 1249) (pc' := 1252) (as := [.ref a, .int x0, .int x1]) (st := st) (st' := (.int x1 :: .int x0 :: .ref a :: st)) (lv' := [some (.ref a), some (.int x0), some (.int x1), none, none]) (h := h) (r3 := 11) rfl rfl rfl mi255 rfl rfl (Nat.le_of_ble_eq_true rfl) (rc_v rfl) rfl rfl
set_option maxRecDepth 20000 in
theorem s300_1252 {d : Nat} {st : List Value} {h : aM} {Q : Option Value → aM → Prop} {lv : aV} {x y : Int32} : AW d 300 1252 lv (.int y :: .int x :: st) h Q ↔ if x = y then AW d 300 1703 lv st h Q else AW d 300 1255 lv st h Q := w_if rfl rfl rfl rfl rfl c2_eq
set_option maxRecDepth 20000 in
theorem s300_1255 {d : Nat} {st : List Value} {h : aM} {Q : Option Value → aM → Prop} {lv : aV} : AW d 300 1255 lv st h Q ↔ AW d 300 1256 lv (.int 0 :: st) h Q := w_st rfl rfl rfl rfl rfl
set_option maxRecDepth 20000 in
theorem s300_1256 {d : Nat} {h : aM} {Q : Option Value → aM → Prop} {lv : aV} {x : Int32} : AW d 300 1256 lv [.int x] h Q ↔ narrow .boolean (.int x) = .int x ∧ Q (some (.int x)) h := w_rz rfl rfl
set_option maxRecDepth 20000 in
theorem s300_1257 {d : Nat} {st : List Value} {h : aM} {Q : Option Value → aM → Prop} {v0 v2 v3 v4 v5 v6 : Option Value} {x : Nat} : AW d 300 1257 [v0, some (.ref x), v2, v3, v4, v5, v6] st h Q ↔ AW d 300 1258 [v0, some (.ref x), v2, v3, v4, v5, v6] (.ref x :: st) h Q := w_st rfl rfl rfl rfl rfl
set_option maxRecDepth 20000 in
theorem s300_1258 {d : Nat} {st : List Value} {h : aM} {Q : Option Value → aM → Prop} {v1 v2 v3 v4 v5 v6 : Option Value} {x : Nat} : AW d 300 1258 [some (.ref x), v1, v2, v3, v4, v5, v6] st h Q ↔ AW d 300 1259 [some (.ref x), v1, v2, v3, v4, v5, v6] (.ref x :: st) h Q := w_st rfl rfl rfl rfl rfl
set_option maxRecDepth 20000 in
theorem s300_1259 {d : Nat} {st : List Value} {h : aM} {Q : Option Value → aM → Prop} {v0 v1 v2 v3 v5 v6 : Option Value} {x : Int32} : AW d 300 1259 [v0, v1, v2, v3, some (.int x), v5, v6] st h Q ↔ AW d 300 1261 [v0, v1, v2, v3, some (.int x), v5, v6] (.int x :: st) h Q := w_st rfl rfl rfl rfl rfl
set_option maxRecDepth 20000 in
theorem s300_1261 {d : Nat} {st : List Value} {h : aM} {Q : Option Value → aM → Prop} {lv : aV} : AW d 300 1261 lv st h Q ↔ AW d 300 1262 lv (.int 1 :: st) h Q := w_st rfl rfl rfl rfl rfl
set_option maxRecDepth 20000 in
theorem s300_1262 {d : Nat} {st : List Value} {h : aM} {Q : Option Value → aM → Prop} {lv : aV} {x y : Int32} : AW d 300 1262 lv (.int y :: .int x :: st) h Q ↔ AW d 300 1263 lv (.int (x + y) :: st) h Q := w_st rfl rfl rfl rfl rfl
set_option maxRecDepth 20000 in
theorem s300_1263 {d : Nat} {st : List Value} {h : aM} {Q : Option Value → aM → Prop} {lv : aV} {a : Nat} {i : Int32} : AW d 300 1263 lv (.int i :: .ref a :: st) h Q ↔ inA h a 100 i ∧ AW d 300 1264 lv (.int (gi h a i.toNatClampNeg) :: st) h Q := w_ite rfl rfl rfl rfl rfl aArr_iff
set_option maxRecDepth 20000 in
theorem s300_1264 {d : Nat} {st : List Value} {h : aM} {Q : Option Value → aM → Prop} {lv : aV} {a : Nat} {x0 : Int32} : AW (d + 1) 300 1264 lv (.int x0 :: .ref a :: st) h Q ↔ (sh h a = some (10, 19) ∧ cs st ≤ 8) ∧ AW d 140 0 [some (.ref a), some (.int x0)] [] h (fun v h => AW (d + 1) 300 1267 lv (v.toList ++ st) h Q) := w_c (k := 300) (pc := 1264) (pc' := 1267) (as := [.ref a, .int x0]) (st := st) (st' := (.int x0 :: .ref a :: st)) (lv' := [some (.ref a), some (.int x0)]) (h := h) (r3 := 10) rfl rfl rfl mi140 rfl rfl (Nat.le_of_ble_eq_true rfl) (rc_v rfl) rfl rfl
set_option maxRecDepth 20000 in
theorem s300_1267 {d : Nat} {st : List Value} {h : aM} {Q : Option Value → aM → Prop} {v0 v1 v3 v4 v5 v6 : Option Value} {x : Nat} : AW d 300 1267 [v0, v1, some (.ref x), v3, v4, v5, v6] st h Q ↔ AW d 300 1268 [v0, v1, some (.ref x), v3, v4, v5, v6] (.ref x :: st) h Q := w_st rfl rfl rfl rfl rfl
set_option maxRecDepth 20000 in
theorem s300_1268 {d : Nat} {st : List Value} {h : aM} {Q : Option Value → aM → Prop} {v1 v2 v3 v4 v5 v6 : Option Value} {x : Nat} : AW d 300 1268 [some (.ref x), v1, v2, v3, v4, v5, v6] st h Q ↔ AW d 300 1269 [some (.ref x), v1, v2, v3, v4, v5, v6] (.ref x :: st) h Q := w_st rfl rfl rfl rfl rfl
set_option maxRecDepth 20000 in
theorem s300_1269 {d : Nat} {st : List Value} {h : aM} {Q : Option Value → aM → Prop} {v0 v1 v2 v3 v5 v6 : Option Value} {x : Int32} : AW d 300 1269 [v0, v1, v2, v3, some (.int x), v5, v6] st h Q ↔ AW d 300 1271 [v0, v1, v2, v3, some (.int x), v5, v6] (.int x :: st) h Q := w_st rfl rfl rfl rfl rfl
set_option maxRecDepth 20000 in
theorem s300_1271 {d : Nat} {st : List Value} {h : aM} {Q : Option Value → aM → Prop} {lv : aV} : AW d 300 1271 lv st h Q ↔ AW d 300 1272 lv (.int 1 :: st) h Q := w_st rfl rfl rfl rfl rfl
set_option maxRecDepth 20000 in
theorem s300_1272 {d : Nat} {st : List Value} {h : aM} {Q : Option Value → aM → Prop} {lv : aV} {x y : Int32} : AW d 300 1272 lv (.int y :: .int x :: st) h Q ↔ AW d 300 1273 lv (.int (x + y) :: st) h Q := w_st rfl rfl rfl rfl rfl
set_option maxRecDepth 20000 in
theorem s300_1273 {d : Nat} {st : List Value} {h : aM} {Q : Option Value → aM → Prop} {lv : aV} {a : Nat} {i : Int32} : AW d 300 1273 lv (.int i :: .ref a :: st) h Q ↔ inA h a 100 i ∧ AW d 300 1274 lv (.int (gi h a i.toNatClampNeg) :: st) h Q := w_ite rfl rfl rfl rfl rfl aArr_iff
set_option maxRecDepth 20000 in
theorem s300_1274 {d : Nat} {st : List Value} {h : aM} {Q : Option Value → aM → Prop} {lv : aV} {a : Nat} {x0 : Int32} : AW (d + 1) 300 1274 lv (.int x0 :: .ref a :: st) h Q ↔ (sh h a = some (11, 50) ∧ cs st ≤ 8) ∧ AW d 257 0 [some (.ref a), some (.int x0), none, none, none, none] [] h (fun v h => AW (d + 1) 300 1277 lv (v.toList ++ st) h Q) := w_c (k := 300) (pc := 1274) (pc' := 1277) (as := [.ref a, .int x0]) (st := st) (st' := (.int x0 :: .ref a :: st)) (lv' := [some (.ref a), some (.int x0), none, none, none, none]) (h := h) (r3 := 11) rfl rfl rfl mi257 rfl rfl (Nat.le_of_ble_eq_true rfl) (rc_v rfl) rfl rfl
set_option maxRecDepth 20000 in
theorem s300_1277 {d : Nat} {st : List Value} {h : aM} {Q : Option Value → aM → Prop} {lv : aV} {x y : Int32} : AW d 300 1277 lv (.int y :: .int x :: st) h Q ↔ if x = y then AW d 300 1703 lv st h Q else AW d 300 1280 lv st h Q := w_if rfl rfl rfl rfl rfl c2_eq
set_option maxRecDepth 20000 in
theorem s300_1280 {d : Nat} {st : List Value} {h : aM} {Q : Option Value → aM → Prop} {lv : aV} : AW d 300 1280 lv st h Q ↔ AW d 300 1281 lv (.int 0 :: st) h Q := w_st rfl rfl rfl rfl rfl
set_option maxRecDepth 20000 in
theorem s300_1281 {d : Nat} {h : aM} {Q : Option Value → aM → Prop} {lv : aV} {x : Int32} : AW d 300 1281 lv [.int x] h Q ↔ narrow .boolean (.int x) = .int x ∧ Q (some (.int x)) h := w_rz rfl rfl
set_option maxRecDepth 20000 in
theorem s300_1282 {d : Nat} {st : List Value} {h : aM} {Q : Option Value → aM → Prop} {v0 v2 v3 v4 v5 v6 : Option Value} {x : Nat} : AW d 300 1282 [v0, some (.ref x), v2, v3, v4, v5, v6] st h Q ↔ AW d 300 1283 [v0, some (.ref x), v2, v3, v4, v5, v6] (.ref x :: st) h Q := w_st rfl rfl rfl rfl rfl
set_option maxRecDepth 20000 in
theorem s300_1283 {d : Nat} {st : List Value} {h : aM} {Q : Option Value → aM → Prop} {v1 v2 v3 v4 v5 v6 : Option Value} {x : Nat} : AW d 300 1283 [some (.ref x), v1, v2, v3, v4, v5, v6] st h Q ↔ AW d 300 1284 [some (.ref x), v1, v2, v3, v4, v5, v6] (.ref x :: st) h Q := w_st rfl rfl rfl rfl rfl
set_option maxRecDepth 20000 in
theorem s300_1284 {d : Nat} {st : List Value} {h : aM} {Q : Option Value → aM → Prop} {v0 v1 v2 v3 v5 v6 : Option Value} {x : Int32} : AW d 300 1284 [v0, v1, v2, v3, some (.int x), v5, v6] st h Q ↔ AW d 300 1286 [v0, v1, v2, v3, some (.int x), v5, v6] (.int x :: st) h Q := w_st rfl rfl rfl rfl rfl
set_option maxRecDepth 20000 in
theorem s300_1286 {d : Nat} {st : List Value} {h : aM} {Q : Option Value → aM → Prop} {lv : aV} : AW d 300 1286 lv st h Q ↔ AW d 300 1287 lv (.int 1 :: st) h Q := w_st rfl rfl rfl rfl rfl
set_option maxRecDepth 20000 in
theorem s300_1287 {d : Nat} {st : List Value} {h : aM} {Q : Option Value → aM → Prop} {lv : aV} {x y : Int32} : AW d 300 1287 lv (.int y :: .int x :: st) h Q ↔ AW d 300 1288 lv (.int (x + y) :: st) h Q := w_st rfl rfl rfl rfl rfl
set_option maxRecDepth 20000 in
theorem s300_1288 {d : Nat} {st : List Value} {h : aM} {Q : Option Value → aM → Prop} {lv : aV} {a : Nat} {i : Int32} : AW d 300 1288 lv (.int i :: .ref a :: st) h Q ↔ inA h a 100 i ∧ AW d 300 1289 lv (.int (gi h a i.toNatClampNeg) :: st) h Q := w_ite rfl rfl rfl rfl rfl aArr_iff
set_option maxRecDepth 20000 in
theorem s300_1289 {d : Nat} {st : List Value} {h : aM} {Q : Option Value → aM → Prop} {v1 v2 v3 v4 v5 v6 : Option Value} {x : Nat} : AW d 300 1289 [some (.ref x), v1, v2, v3, v4, v5, v6] st h Q ↔ AW d 300 1290 [some (.ref x), v1, v2, v3, v4, v5, v6] (.ref x :: st) h Q := w_st rfl rfl rfl rfl rfl
set_option maxRecDepth 20000 in
theorem s300_1290 {d : Nat} {st : List Value} {h : aM} {Q : Option Value → aM → Prop} {v0 v1 v2 v3 v5 v6 : Option Value} {x : Int32} : AW d 300 1290 [v0, v1, v2, v3, some (.int x), v5, v6] st h Q ↔ AW d 300 1292 [v0, v1, v2, v3, some (.int x), v5, v6] (.int x :: st) h Q := w_st rfl rfl rfl rfl rfl
set_option maxRecDepth 20000 in
theorem s300_1292 {d : Nat} {st : List Value} {h : aM} {Q : Option Value → aM → Prop} {lv : aV} : AW d 300 1292 lv st h Q ↔ AW d 300 1293 lv (.int 2 :: st) h Q := w_st rfl rfl rfl rfl rfl
set_option maxRecDepth 20000 in
theorem s300_1293 {d : Nat} {st : List Value} {h : aM} {Q : Option Value → aM → Prop} {lv : aV} {x y : Int32} : AW d 300 1293 lv (.int y :: .int x :: st) h Q ↔ AW d 300 1294 lv (.int (x + y) :: st) h Q := w_st rfl rfl rfl rfl rfl
set_option maxRecDepth 20000 in
theorem s300_1294 {d : Nat} {st : List Value} {h : aM} {Q : Option Value → aM → Prop} {lv : aV} {a : Nat} {i : Int32} : AW d 300 1294 lv (.int i :: .ref a :: st) h Q ↔ inA h a 100 i ∧ AW d 300 1295 lv (.int (gi h a i.toNatClampNeg) :: st) h Q := w_ite rfl rfl rfl rfl rfl aArr_iff
set_option maxRecDepth 20000 in
theorem s300_1295 {d : Nat} {st : List Value} {h : aM} {Q : Option Value → aM → Prop} {v1 v2 v3 v4 v5 v6 : Option Value} {x : Nat} : AW d 300 1295 [some (.ref x), v1, v2, v3, v4, v5, v6] st h Q ↔ AW d 300 1296 [some (.ref x), v1, v2, v3, v4, v5, v6] (.ref x :: st) h Q := w_st rfl rfl rfl rfl rfl
set_option maxRecDepth 20000 in
theorem s300_1296 {d : Nat} {st : List Value} {h : aM} {Q : Option Value → aM → Prop} {v0 v1 v2 v3 v5 v6 : Option Value} {x : Int32} : AW d 300 1296 [v0, v1, v2, v3, some (.int x), v5, v6] st h Q ↔ AW d 300 1298 [v0, v1, v2, v3, some (.int x), v5, v6] (.int x :: st) h Q := w_st rfl rfl rfl rfl rfl
set_option maxRecDepth 20000 in
theorem s300_1298 {d : Nat} {st : List Value} {h : aM} {Q : Option Value → aM → Prop} {lv : aV} : AW d 300 1298 lv st h Q ↔ AW d 300 1299 lv (.int 3 :: st) h Q := w_st rfl rfl rfl rfl rfl
set_option maxRecDepth 20000 in
theorem s300_1299 {d : Nat} {st : List Value} {h : aM} {Q : Option Value → aM → Prop} {lv : aV} {x y : Int32} : AW d 300 1299 lv (.int y :: .int x :: st) h Q ↔ AW d 300 1300 lv (.int (x + y) :: st) h Q := w_st rfl rfl rfl rfl rfl
set_option maxRecDepth 20000 in
theorem s300_1300 {d : Nat} {st : List Value} {h : aM} {Q : Option Value → aM → Prop} {lv : aV} {a : Nat} {i : Int32} : AW d 300 1300 lv (.int i :: .ref a :: st) h Q ↔ inA h a 100 i ∧ AW d 300 1301 lv (.int (gi h a i.toNatClampNeg) :: st) h Q := w_ite rfl rfl rfl rfl rfl aArr_iff
set_option maxRecDepth 20000 in
theorem s300_1301 {d : Nat} {st : List Value} {h : aM} {Q : Option Value → aM → Prop} {lv : aV} {a : Nat} {x0 : Int32} {x1 : Int32} {x2 : Int32} : AW (d + 1) 300 1301 lv (.int x2 :: .int x1 :: .int x0 :: .ref a :: st) h Q ↔ (sh h a = some (10, 19) ∧ cs st ≤ 8) ∧ AW d 142 0 [some (.ref a), some (.int x0), some (.int x1), some (.int x2)] [] h (fun v h => AW (d + 1) 300 1304 lv (v.toList ++ st) h Q) := w_c (k := 300) (pc := 1301) (pc' := 1304) (as := [.ref a, .int x0, .int x1, .int x2]) (st := st) (st' := (.int x2 :: .int x1 :: .int x0 :: .ref a :: st)) (lv' := [some (.ref a), some (.int x0), some (.int x1), some (.int x2)]) (h := h) (r3 := 10) rfl rfl rfl mi142 rfl rfl (Nat.le_of_ble_eq_true rfl) (rc_v rfl) rfl rfl
set_option maxRecDepth 20000 in
theorem s300_1304 {d : Nat} {st : List Value} {h : aM} {Q : Option Value → aM → Prop} {v0 v1 v3 v4 v5 v6 : Option Value} {x : Nat} : AW d 300 1304 [v0, v1, some (.ref x), v3, v4, v5, v6] st h Q ↔ AW d 300 1305 [v0, v1, some (.ref x), v3, v4, v5, v6] (.ref x :: st) h Q := w_st rfl rfl rfl rfl rfl
set_option maxRecDepth 20000 in
theorem s300_1305 {d : Nat} {st : List Value} {h : aM} {Q : Option Value → aM → Prop} {v1 v2 v3 v4 v5 v6 : Option Value} {x : Nat} : AW d 300 1305 [some (.ref x), v1, v2, v3, v4, v5, v6] st h Q ↔ AW d 300 1306 [some (.ref x), v1, v2, v3, v4, v5, v6] (.ref x :: st) h Q := w_st rfl rfl rfl rfl rfl
set_option maxRecDepth 20000 in
theorem s300_1306 {d : Nat} {st : List Value} {h : aM} {Q : Option Value → aM → Prop} {v0 v1 v2 v3 v5 v6 : Option Value} {x : Int32} : AW d 300 1306 [v0, v1, v2, v3, some (.int x), v5, v6] st h Q ↔ AW d 300 1308 [v0, v1, v2, v3, some (.int x), v5, v6] (.int x :: st) h Q := w_st rfl rfl rfl rfl rfl
set_option maxRecDepth 20000 in
theorem s300_1308 {d : Nat} {st : List Value} {h : aM} {Q : Option Value → aM → Prop} {lv : aV} : AW d 300 1308 lv st h Q ↔ AW d 300 1309 lv (.int 1 :: st) h Q := w_st rfl rfl rfl rfl rfl
set_option maxRecDepth 20000 in
theorem s300_1309 {d : Nat} {st : List Value} {h : aM} {Q : Option Value → aM → Prop} {lv : aV} {x y : Int32} : AW d 300 1309 lv (.int y :: .int x :: st) h Q ↔ AW d 300 1310 lv (.int (x + y) :: st) h Q := w_st rfl rfl rfl rfl rfl
set_option maxRecDepth 20000 in
theorem s300_1310 {d : Nat} {st : List Value} {h : aM} {Q : Option Value → aM → Prop} {lv : aV} {a : Nat} {i : Int32} : AW d 300 1310 lv (.int i :: .ref a :: st) h Q ↔ inA h a 100 i ∧ AW d 300 1311 lv (.int (gi h a i.toNatClampNeg) :: st) h Q := w_ite rfl rfl rfl rfl rfl aArr_iff
set_option maxRecDepth 20000 in
theorem s300_1311 {d : Nat} {st : List Value} {h : aM} {Q : Option Value → aM → Prop} {v1 v2 v3 v4 v5 v6 : Option Value} {x : Nat} : AW d 300 1311 [some (.ref x), v1, v2, v3, v4, v5, v6] st h Q ↔ AW d 300 1312 [some (.ref x), v1, v2, v3, v4, v5, v6] (.ref x :: st) h Q := w_st rfl rfl rfl rfl rfl
set_option maxRecDepth 20000 in
theorem s300_1312 {d : Nat} {st : List Value} {h : aM} {Q : Option Value → aM → Prop} {v0 v1 v2 v3 v5 v6 : Option Value} {x : Int32} : AW d 300 1312 [v0, v1, v2, v3, some (.int x), v5, v6] st h Q ↔ AW d 300 1314 [v0, v1, v2, v3, some (.int x), v5, v6] (.int x :: st) h Q := w_st rfl rfl rfl rfl rfl
set_option maxRecDepth 20000 in
theorem s300_1314 {d : Nat} {st : List Value} {h : aM} {Q : Option Value → aM → Prop} {lv : aV} : AW d 300 1314 lv st h Q ↔ AW d 300 1315 lv (.int 2 :: st) h Q := w_st rfl rfl rfl rfl rfl
set_option maxRecDepth 20000 in
theorem s300_1315 {d : Nat} {st : List Value} {h : aM} {Q : Option Value → aM → Prop} {lv : aV} {x y : Int32} : AW d 300 1315 lv (.int y :: .int x :: st) h Q ↔ AW d 300 1316 lv (.int (x + y) :: st) h Q := w_st rfl rfl rfl rfl rfl
set_option maxRecDepth 20000 in
theorem s300_1316 {d : Nat} {st : List Value} {h : aM} {Q : Option Value → aM → Prop} {lv : aV} {a : Nat} {i : Int32} : AW d 300 1316 lv (.int i :: .ref a :: st) h Q ↔ inA h a 100 i ∧ AW d 300 1317 lv (.int (gi h a i.toNatClampNeg) :: st) h Q := w_ite rfl rfl rfl rfl rfl aArr_iff
set_option maxRecDepth 20000 in
theorem s300_1317 {d : Nat} {st : List Value} {h : aM} {Q : Option Value → aM → Prop} {v1 v2 v3 v4 v5 v6 : Option Value} {x : Nat} : AW d 300 1317 [some (.ref x), v1, v2, v3, v4, v5, v6] st h Q ↔ AW d 300 1318 [some (.ref x), v1, v2, v3, v4, v5, v6] (.ref x :: st) h Q := w_st rfl rfl rfl rfl rfl
set_option maxRecDepth 20000 in
theorem s300_1318 {d : Nat} {st : List Value} {h : aM} {Q : Option Value → aM → Prop} {v0 v1 v2 v3 v5 v6 : Option Value} {x : Int32} : AW d 300 1318 [v0, v1, v2, v3, some (.int x), v5, v6] st h Q ↔ AW d 300 1320 [v0, v1, v2, v3, some (.int x), v5, v6] (.int x :: st) h Q := w_st rfl rfl rfl rfl rfl
set_option maxRecDepth 20000 in
theorem s300_1320 {d : Nat} {st : List Value} {h : aM} {Q : Option Value → aM → Prop} {lv : aV} : AW d 300 1320 lv st h Q ↔ AW d 300 1321 lv (.int 3 :: st) h Q := w_st rfl rfl rfl rfl rfl
set_option maxRecDepth 20000 in
theorem s300_1321 {d : Nat} {st : List Value} {h : aM} {Q : Option Value → aM → Prop} {lv : aV} {x y : Int32} : AW d 300 1321 lv (.int y :: .int x :: st) h Q ↔ AW d 300 1322 lv (.int (x + y) :: st) h Q := w_st rfl rfl rfl rfl rfl
set_option maxRecDepth 20000 in
theorem s300_1322 {d : Nat} {st : List Value} {h : aM} {Q : Option Value → aM → Prop} {lv : aV} {a : Nat} {i : Int32} : AW d 300 1322 lv (.int i :: .ref a :: st) h Q ↔ inA h a 100 i ∧ AW d 300 1323 lv (.int (gi h a i.toNatClampNeg) :: st) h Q := w_ite rfl rfl rfl rfl rfl aArr_iff
set_option maxRecDepth 20000 in
theorem s300_1323 {d : Nat} {st : List Value} {h : aM} {Q : Option Value → aM → Prop} {lv : aV} {a : Nat} {x0 : Int32} {x1 : Int32} {x2 : Int32} : AW (d + 1) 300 1323 lv (.int x2 :: .int x1 :: .int x0 :: .ref a :: st) h Q ↔ (sh h a = some (11, 50) ∧ cs st ≤ 8) ∧ AW d 259 0 [some (.ref a), some (.int x0), some (.int x1), some (.int x2)] [] h (fun v h => AW (d + 1) 300 1326 lv (v.toList ++ st) h Q) := w_c (k := 300) (pc := 1323) (pc' := 1326) (as := [.ref a, .int x0, .int x1, .int x2]) (st := st) (st' := (.int x2 :: .int x1 :: .int x0 :: .ref a :: st)) (lv' := [some (.ref a), some (.int x0), some (.int x1), some (.int x2)]) (h := h) (r3 := 11) rfl rfl rfl mi259 rfl rfl (Nat.le_of_ble_eq_true rfl) (rc_v rfl) rfl rfl
set_option maxRecDepth 20000 in
theorem s300_1326 {d : Nat} {st : List Value} {h : aM} {Q : Option Value → aM → Prop} {lv : aV} {x y : Int32} : AW d 300 1326 lv (.int y :: .int x :: st) h Q ↔ if x = y then AW d 300 1703 lv st h Q else AW d 300 1329 lv st h Q := w_if rfl rfl rfl rfl rfl c2_eq
set_option maxRecDepth 20000 in
theorem s300_1329 {d : Nat} {st : List Value} {h : aM} {Q : Option Value → aM → Prop} {lv : aV} : AW d 300 1329 lv st h Q ↔ AW d 300 1330 lv (.int 0 :: st) h Q := w_st rfl rfl rfl rfl rfl
set_option maxRecDepth 20000 in
theorem s300_1330 {d : Nat} {h : aM} {Q : Option Value → aM → Prop} {lv : aV} {x : Int32} : AW d 300 1330 lv [.int x] h Q ↔ narrow .boolean (.int x) = .int x ∧ Q (some (.int x)) h := w_rz rfl rfl
set_option maxRecDepth 20000 in
theorem s300_1331 {d : Nat} {st : List Value} {h : aM} {Q : Option Value → aM → Prop} {v0 v2 v3 v4 v5 v6 : Option Value} {x : Nat} : AW d 300 1331 [v0, some (.ref x), v2, v3, v4, v5, v6] st h Q ↔ AW d 300 1332 [v0, some (.ref x), v2, v3, v4, v5, v6] (.ref x :: st) h Q := w_st rfl rfl rfl rfl rfl
set_option maxRecDepth 20000 in
theorem s300_1332 {d : Nat} {st : List Value} {h : aM} {Q : Option Value → aM → Prop} {v1 v2 v3 v4 v5 v6 : Option Value} {x : Nat} : AW d 300 1332 [some (.ref x), v1, v2, v3, v4, v5, v6] st h Q ↔ AW d 300 1333 [some (.ref x), v1, v2, v3, v4, v5, v6] (.ref x :: st) h Q := w_st rfl rfl rfl rfl rfl
set_option maxRecDepth 20000 in
theorem s300_1333 {d : Nat} {st : List Value} {h : aM} {Q : Option Value → aM → Prop} {v0 v1 v2 v3 v5 v6 : Option Value} {x : Int32} : AW d 300 1333 [v0, v1, v2, v3, some (.int x), v5, v6] st h Q ↔ AW d 300 1335 [v0, v1, v2, v3, some (.int x), v5, v6] (.int x :: st) h Q := w_st rfl rfl rfl rfl rfl
set_option maxRecDepth 20000 in
theorem s300_1335 {d : Nat} {st : List Value} {h : aM} {Q : Option Value → aM → Prop} {lv : aV} : AW d 300 1335 lv st h Q ↔ AW d 300 1336 lv (.int 1 :: st) h Q := w_st rfl rfl rfl rfl rfl
set_option maxRecDepth 20000 in
theorem s300_1336 {d : Nat} {st : List Value} {h : aM} {Q : Option Value → aM → Prop} {lv : aV} {x y : Int32} : AW d 300 1336 lv (.int y :: .int x :: st) h Q ↔ AW d 300 1337 lv (.int (x + y) :: st) h Q := w_st rfl rfl rfl rfl rfl
set_option maxRecDepth 20000 in
theorem s300_1337 {d : Nat} {st : List Value} {h : aM} {Q : Option Value → aM → Prop} {lv : aV} {a : Nat} {i : Int32} : AW d 300 1337 lv (.int i :: .ref a :: st) h Q ↔ inA h a 100 i ∧ AW d 300 1338 lv (.int (gi h a i.toNatClampNeg) :: st) h Q := w_ite rfl rfl rfl rfl rfl aArr_iff
set_option maxRecDepth 20000 in
theorem s300_1338 {d : Nat} {st : List Value} {h : aM} {Q : Option Value → aM → Prop} {lv : aV} {a : Nat} {x0 : Int32} : AW (d + 1) 300 1338 lv (.int x0 :: .ref a :: st) h Q ↔ (sh h a = some (10, 19) ∧ cs st ≤ 8) ∧ AW d 143 0 [some (.ref a), some (.int x0), none, none] [] h (fun v h => AW (d + 1) 300 1341 lv (v.toList ++ st) h Q) := w_c (k := 300) (pc := 1338) (pc' := 1341) (as := [.ref a, .int x0]) (st := st) (st' := (.int x0 :: .ref a :: st)) (lv' := [some (.ref a), some (.int x0), none, none]) (h := h) (r3 := 10) rfl rfl rfl mi143 rfl rfl (Nat.le_of_ble_eq_true rfl) (rc_v rfl) rfl rfl
set_option maxRecDepth 20000 in
theorem s300_1341 {d : Nat} {st : List Value} {h : aM} {Q : Option Value → aM → Prop} {v0 v1 v3 v4 v5 v6 : Option Value} {x : Nat} : AW d 300 1341 [v0, v1, some (.ref x), v3, v4, v5, v6] st h Q ↔ AW d 300 1342 [v0, v1, some (.ref x), v3, v4, v5, v6] (.ref x :: st) h Q := w_st rfl rfl rfl rfl rfl
set_option maxRecDepth 20000 in
theorem s300_1342 {d : Nat} {st : List Value} {h : aM} {Q : Option Value → aM → Prop} {v1 v2 v3 v4 v5 v6 : Option Value} {x : Nat} : AW d 300 1342 [some (.ref x), v1, v2, v3, v4, v5, v6] st h Q ↔ AW d 300 1343 [some (.ref x), v1, v2, v3, v4, v5, v6] (.ref x :: st) h Q := w_st rfl rfl rfl rfl rfl
set_option maxRecDepth 20000 in
theorem s300_1343 {d : Nat} {st : List Value} {h : aM} {Q : Option Value → aM → Prop} {v0 v1 v2 v3 v5 v6 : Option Value} {x : Int32} : AW d 300 1343 [v0, v1, v2, v3, some (.int x), v5, v6] st h Q ↔ AW d 300 1345 [v0, v1, v2, v3, some (.int x), v5, v6] (.int x :: st) h Q := w_st rfl rfl rfl rfl rfl
set_option maxRecDepth 20000 in
theorem s300_1345 {d : Nat} {st : List Value} {h : aM} {Q : Option Value → aM → Prop} {lv : aV} : AW d 300 1345 lv st h Q ↔ AW d 300 1346 lv (.int 1 :: st) h Q := w_st rfl rfl rfl rfl rfl
set_option maxRecDepth 20000 in
theorem s300_1346 {d : Nat} {st : List Value} {h : aM} {Q : Option Value → aM → Prop} {lv : aV} {x y : Int32} : AW d 300 1346 lv (.int y :: .int x :: st) h Q ↔ AW d 300 1347 lv (.int (x + y) :: st) h Q := w_st rfl rfl rfl rfl rfl
set_option maxRecDepth 20000 in
theorem s300_1347 {d : Nat} {st : List Value} {h : aM} {Q : Option Value → aM → Prop} {lv : aV} {a : Nat} {i : Int32} : AW d 300 1347 lv (.int i :: .ref a :: st) h Q ↔ inA h a 100 i ∧ AW d 300 1348 lv (.int (gi h a i.toNatClampNeg) :: st) h Q := w_ite rfl rfl rfl rfl rfl aArr_iff
set_option maxRecDepth 20000 in
theorem s300_1348 {d : Nat} {st : List Value} {h : aM} {Q : Option Value → aM → Prop} {lv : aV} {a : Nat} {x0 : Int32} : AW (d + 1) 300 1348 lv (.int x0 :: .ref a :: st) h Q ↔ (sh h a = some (11, 50) ∧ cs st ≤ 8) ∧ AW d 260 0 [some (.ref a), some (.int x0), none, none] [] h (fun v h => AW (d + 1) 300 1351 lv (v.toList ++ st) h Q) := w_c (k := 300) (pc := 1348) (pc' := 1351) (as := [.ref a, .int x0]) (st := st) (st' := (.int x0 :: .ref a :: st)) (lv' := [some (.ref a), some (.int x0), none, none]) (h := h) (r3 := 11) rfl rfl rfl mi260 rfl rfl (Nat.le_of_ble_eq_true rfl) (rc_v rfl) rfl rfl
set_option maxRecDepth 20000 in
theorem s300_1351 {d : Nat} {st : List Value} {h : aM} {Q : Option Value → aM → Prop} {lv : aV} {x y : Int32} : AW d 300 1351 lv (.int y :: .int x :: st) h Q ↔ if x = y then AW d 300 1703 lv st h Q else AW d 300 1354 lv st h Q := w_if rfl rfl rfl rfl rfl c2_eq
set_option maxRecDepth 20000 in
theorem s300_1354 {d : Nat} {st : List Value} {h : aM} {Q : Option Value → aM → Prop} {lv : aV} : AW d 300 1354 lv st h Q ↔ AW d 300 1355 lv (.int 0 :: st) h Q := w_st rfl rfl rfl rfl rfl
set_option maxRecDepth 20000 in
theorem s300_1355 {d : Nat} {h : aM} {Q : Option Value → aM → Prop} {lv : aV} {x : Int32} : AW d 300 1355 lv [.int x] h Q ↔ narrow .boolean (.int x) = .int x ∧ Q (some (.int x)) h := w_rz rfl rfl
set_option maxRecDepth 20000 in
theorem s300_1356 {d : Nat} {st : List Value} {h : aM} {Q : Option Value → aM → Prop} {v0 v2 v3 v4 v5 v6 : Option Value} {x : Nat} : AW d 300 1356 [v0, some (.ref x), v2, v3, v4, v5, v6] st h Q ↔ AW d 300 1357 [v0, some (.ref x), v2, v3, v4, v5, v6] (.ref x :: st) h Q := w_st rfl rfl rfl rfl rfl
set_option maxRecDepth 20000 in
theorem s300_1357 {d : Nat} {st : List Value} {h : aM} {Q : Option Value → aM → Prop} {v1 v2 v3 v4 v5 v6 : Option Value} {x : Nat} : AW d 300 1357 [some (.ref x), v1, v2, v3, v4, v5, v6] st h Q ↔ AW d 300 1358 [some (.ref x), v1, v2, v3, v4, v5, v6] (.ref x :: st) h Q := w_st rfl rfl rfl rfl rfl
set_option maxRecDepth 20000 in
theorem s300_1358 {d : Nat} {st : List Value} {h : aM} {Q : Option Value → aM → Prop} {v0 v1 v2 v3 v5 v6 : Option Value} {x : Int32} : AW d 300 1358 [v0, v1, v2, v3, some (.int x), v5, v6] st h Q ↔ AW d 300 1360 [v0, v1, v2, v3, some (.int x), v5, v6] (.int x :: st) h Q := w_st rfl rfl rfl rfl rfl
set_option maxRecDepth 20000 in
theorem s300_1360 {d : Nat} {st : List Value} {h : aM} {Q : Option Value → aM → Prop} {lv : aV} : AW d 300 1360 lv st h Q ↔ AW d 300 1361 lv (.int 1 :: st) h Q := w_st rfl rfl rfl rfl rfl
set_option maxRecDepth 20000 in
theorem s300_1361 {d : Nat} {st : List Value} {h : aM} {Q : Option Value → aM → Prop} {lv : aV} {x y : Int32} : AW d 300 1361 lv (.int y :: .int x :: st) h Q ↔ AW d 300 1362 lv (.int (x + y) :: st) h Q := w_st rfl rfl rfl rfl rfl
set_option maxRecDepth 20000 in
theorem s300_1362 {d : Nat} {st : List Value} {h : aM} {Q : Option Value → aM → Prop} {lv : aV} {a : Nat} {i : Int32} : AW d 300 1362 lv (.int i :: .ref a :: st) h Q ↔ inA h a 100 i ∧ AW d 300 1363 lv (.int (gi h a i.toNatClampNeg) :: st) h Q := w_ite rfl rfl rfl rfl rfl aArr_iff
set_option maxRecDepth 20000 in
theorem s300_1363 {d : Nat} {st : List Value} {h : aM} {Q : Option Value → aM → Prop} {v1 v2 v3 v4 v5 v6 : Option Value} {x : Nat} : AW d 300 1363 [some (.ref x), v1, v2, v3, v4, v5, v6] st h Q ↔ AW d 300 1364 [some (.ref x), v1, v2, v3, v4, v5, v6] (.ref x :: st) h Q := w_st rfl rfl rfl rfl rfl
set_option maxRecDepth 20000 in
theorem s300_1364 {d : Nat} {st : List Value} {h : aM} {Q : Option Value → aM → Prop} {v0 v1 v2 v3 v5 v6 : Option Value} {x : Int32} : AW d 300 1364 [v0, v1, v2, v3, some (.int x), v5, v6] st h Q ↔ AW d 300 1366 [v0, v1, v2, v3, some (.int x), v5, v6] (.int x :: st) h Q := w_st rfl rfl rfl rfl rfl
set_option maxRecDepth 20000 in
theorem s300_1366 {d : Nat} {st : List Value} {h : aM} {Q : Option Value → aM → Prop} {lv : aV} : AW d 300 1366 lv st h Q ↔ AW d 300 1367 lv (.int 2 :: st) h Q := w_st rfl rfl rfl rfl rfl
set_option maxRecDepth 20000 in
theorem s300_1367 {d : Nat} {st : List Value} {h : aM} {Q : Option Value → aM → Prop} {lv : aV} {x y : Int32} : AW d 300 1367 lv (.int y :: .int x :: st) h Q ↔ AW d 300 1368 lv (.int (x + y) :: st) h Q := w_st rfl rfl rfl rfl rfl
set_option maxRecDepth 20000 in
theorem s300_1368 {d : Nat} {st : List Value} {h : aM} {Q : Option Value → aM → Prop} {lv : aV} {a : Nat} {i : Int32} : AW d 300 1368 lv (.int i :: .ref a :: st) h Q ↔ inA h a 100 i ∧ AW d 300 1369 lv (.int (gi h a i.toNatClampNeg) :: st) h Q := w_ite rfl rfl rfl rfl rfl aArr_iff
set_option maxRecDepth 20000 in
theorem s300_1369 {d : Nat} {st : List Value} {h : aM} {Q : Option Value → aM → Prop} {v1 v2 v3 v4 v5 v6 : Option Value} {x : Nat} : AW d 300 1369 [some (.ref x), v1, v2, v3, v4, v5, v6] st h Q ↔ AW d 300 1370 [some (.ref x), v1, v2, v3, v4, v5, v6] (.ref x :: st) h Q := w_st rfl rfl rfl rfl rfl
set_option maxRecDepth 20000 in
theorem s300_1370 {d : Nat} {st : List Value} {h : aM} {Q : Option Value → aM → Prop} {v0 v1 v2 v3 v5 v6 : Option Value} {x : Int32} : AW d 300 1370 [v0, v1, v2, v3, some (.int x), v5, v6] st h Q ↔ AW d 300 1372 [v0, v1, v2, v3, some (.int x), v5, v6] (.int x :: st) h Q := w_st rfl rfl rfl rfl rfl
set_option maxRecDepth 20000 in
theorem s300_1372 {d : Nat} {st : List Value} {h : aM} {Q : Option Value → aM → Prop} {lv : aV} : AW d 300 1372 lv st h Q ↔ AW d 300 1373 lv (.int 3 :: st) h Q := w_st rfl rfl rfl rfl rfl
set_option maxRecDepth 20000 in
theorem s300_1373 {d : Nat} {st : List Value} {h : aM} {Q : Option Value → aM → Prop} {lv : aV} {x y : Int32} : AW d 300 1373 lv (.int y :: .int x :: st) h Q ↔ AW d 300 1374 lv (.int (x + y) :: st) h Q := w_st rfl rfl rfl rfl rfl
set_option maxRecDepth 20000 in
theorem s300_1374 {d : Nat} {st : List Value} {h : aM} {Q : Option Value → aM → Prop} {lv : aV} {a : Nat} {i : Int32} : AW d 300 1374 lv (.int i :: .ref a :: st) h Q ↔ inA h a 100 i ∧ AW d 300 1375 lv (.int (gi h a i.toNatClampNeg) :: st) h Q := w_ite rfl rfl rfl rfl rfl aArr_iff
set_option maxRecDepth 20000 in
theorem s300_1375 {d : Nat} {st : List Value} {h : aM} {Q : Option Value → aM → Prop} {v1 v2 v3 v4 v5 v6 : Option Value} {x : Nat} : AW d 300 1375 [some (.ref x), v1, v2, v3, v4, v5, v6] st h Q ↔ AW d 300 1376 [some (.ref x), v1, v2, v3, v4, v5, v6] (.ref x :: st) h Q := w_st rfl rfl rfl rfl rfl
set_option maxRecDepth 20000 in
theorem s300_1376 {d : Nat} {st : List Value} {h : aM} {Q : Option Value → aM → Prop} {v0 v1 v2 v3 v5 v6 : Option Value} {x : Int32} : AW d 300 1376 [v0, v1, v2, v3, some (.int x), v5, v6] st h Q ↔ AW d 300 1378 [v0, v1, v2, v3, some (.int x), v5, v6] (.int x :: st) h Q := w_st rfl rfl rfl rfl rfl
set_option maxRecDepth 20000 in
theorem s300_1378 {d : Nat} {st : List Value} {h : aM} {Q : Option Value → aM → Prop} {lv : aV} : AW d 300 1378 lv st h Q ↔ AW d 300 1379 lv (.int 4 :: st) h Q := w_st rfl rfl rfl rfl rfl
set_option maxRecDepth 20000 in
theorem s300_1379 {d : Nat} {st : List Value} {h : aM} {Q : Option Value → aM → Prop} {lv : aV} {x y : Int32} : AW d 300 1379 lv (.int y :: .int x :: st) h Q ↔ AW d 300 1380 lv (.int (x + y) :: st) h Q := w_st rfl rfl rfl rfl rfl
set_option maxRecDepth 20000 in
theorem s300_1380 {d : Nat} {st : List Value} {h : aM} {Q : Option Value → aM → Prop} {lv : aV} {a : Nat} {i : Int32} : AW d 300 1380 lv (.int i :: .ref a :: st) h Q ↔ inA h a 100 i ∧ AW d 300 1381 lv (.int (gi h a i.toNatClampNeg) :: st) h Q := w_ite rfl rfl rfl rfl rfl aArr_iff
set_option maxRecDepth 20000 in
theorem s300_1381 {d : Nat} {st : List Value} {h : aM} {Q : Option Value → aM → Prop} {v1 v2 v3 v4 v5 v6 : Option Value} {x : Nat} : AW d 300 1381 [some (.ref x), v1, v2, v3, v4, v5, v6] st h Q ↔ AW d 300 1382 [some (.ref x), v1, v2, v3, v4, v5, v6] (.ref x :: st) h Q := w_st rfl rfl rfl rfl rfl
set_option maxRecDepth 20000 in
theorem s300_1382 {d : Nat} {st : List Value} {h : aM} {Q : Option Value → aM → Prop} {v0 v1 v2 v3 v5 v6 : Option Value} {x : Int32} : AW d 300 1382 [v0, v1, v2, v3, some (.int x), v5, v6] st h Q ↔ AW d 300 1384 [v0, v1, v2, v3, some (.int x), v5, v6] (.int x :: st) h Q := w_st rfl rfl rfl rfl rfl
set_option maxRecDepth 20000 in
theorem s300_1384 {d : Nat} {st : List Value} {h : aM} {Q : Option Value → aM → Prop} {lv : aV} : AW d 300 1384 lv st h Q ↔ AW d 300 1385 lv (.int 5 :: st) h Q := w_st rfl rfl rfl rfl rfl
set_option maxRecDepth 20000 in
theorem s300_1385 {d : Nat} {st : List Value} {h : aM} {Q : Option Value → aM → Prop} {lv : aV} {x y : Int32} : AW d 300 1385 lv (.int y :: .int x :: st) h Q ↔ AW d 300 1386 lv (.int (x + y) :: st) h Q := w_st rfl rfl rfl rfl rfl
set_option maxRecDepth 20000 in
theorem s300_1386 {d : Nat} {st : List Value} {h : aM} {Q : Option Value → aM → Prop} {lv : aV} {a : Nat} {i : Int32} : AW d 300 1386 lv (.int i :: .ref a :: st) h Q ↔ inA h a 100 i ∧ AW d 300 1387 lv (.int (gi h a i.toNatClampNeg) :: st) h Q := w_ite rfl rfl rfl rfl rfl aArr_iff
set_option maxRecDepth 20000 in
theorem s300_1387 {d : Nat} {st : List Value} {h : aM} {Q : Option Value → aM → Prop} {lv : aV} {a : Nat} {x0 : Int32} {x1 : Int32} {x2 : Int32} {x3 : Int32} {x4 : Int32} : AW (d + 1) 300 1387 lv (.int x4 :: .int x3 :: .int x2 :: .int x1 :: .int x0 :: .ref a :: st) h Q ↔ (sh h a = some (10, 19) ∧ cs st ≤ 8) ∧ AW d 145 0 [some (.ref a), some (.int x0), some (.int x1), some (.int x2), some (.int x3), some (.int x4)] [] h (fun v h => AW (d + 1) 300 1390 lv (v.toList ++ st) h Q) := w_c (k := 300) (pc := 1387) (pc' := 1390) (as := [.ref a, .int x0, .int x1, .int x2, .int x3, .int x4]) (st := st) (st' := (.int x4 :: .int x3 :: .int x2 :: .int x1 :: .int x0 :: .ref a :: st)) (lv' := [some (.ref a), some (.int x0), some (.int x1), some (.int x2), some (.int x3), some (.int x4)]) (h := h) (r3 := 10) rfl rfl rfl mi145 rfl rfl (Nat.le_of_ble_eq_true rfl) (rc_v rfl) rfl rfl
set_option maxRecDepth 20000 in
theorem s300_1390 {d : Nat} {st : List Value} {h : aM} {Q : Option Value → aM → Prop} {v0 v1 v3 v4 v5 v6 : Option Value} {x : Nat} : AW d 300 1390 [v0, v1, some (.ref x), v3, v4, v5, v6] st h Q ↔ AW d 300 1391 [v0, v1, some (.ref x), v3, v4, v5, v6] (.ref x :: st) h Q := w_st rfl rfl rfl rfl rfl
set_option maxRecDepth 20000 in
theorem s300_1391 {d : Nat} {st : List Value} {h : aM} {Q : Option Value → aM → Prop} {v1 v2 v3 v4 v5 v6 : Option Value} {x : Nat} : AW d 300 1391 [some (.ref x), v1, v2, v3, v4, v5, v6] st h Q ↔ AW d 300 1392 [some (.ref x), v1, v2, v3, v4, v5, v6] (.ref x :: st) h Q := w_st rfl rfl rfl rfl rfl
set_option maxRecDepth 20000 in
theorem s300_1392 {d : Nat} {st : List Value} {h : aM} {Q : Option Value → aM → Prop} {v0 v1 v2 v3 v5 v6 : Option Value} {x : Int32} : AW d 300 1392 [v0, v1, v2, v3, some (.int x), v5, v6] st h Q ↔ AW d 300 1394 [v0, v1, v2, v3, some (.int x), v5, v6] (.int x :: st) h Q := w_st rfl rfl rfl rfl rfl
set_option maxRecDepth 20000 in
theorem s300_1394 {d : Nat} {st : List Value} {h : aM} {Q : Option Value → aM → Prop} {lv : aV} : AW d 300 1394 lv st h Q ↔ AW d 300 1395 lv (.int 1 :: st) h Q := w_st rfl rfl rfl rfl rfl
set_option maxRecDepth 20000 in
theorem s300_1395 {d : Nat} {st : List Value} {h : aM} {Q : Option Value → aM → Prop} {lv : aV} {x y : Int32} : AW d 300 1395 lv (.int y :: .int x :: st) h Q ↔ AW d 300 1396 lv (.int (x + y) :: st) h Q := w_st rfl rfl rfl rfl rfl
set_option maxRecDepth 20000 in
theorem s300_1396 {d : Nat} {st : List Value} {h : aM} {Q : Option Value → aM → Prop} {lv : aV} {a : Nat} {i : Int32} : AW d 300 1396 lv (.int i :: .ref a :: st) h Q ↔ inA h a 100 i ∧ AW d 300 1397 lv (.int (gi h a i.toNatClampNeg) :: st) h Q := w_ite rfl rfl rfl rfl rfl aArr_iff
set_option maxRecDepth 20000 in
theorem s300_1397 {d : Nat} {st : List Value} {h : aM} {Q : Option Value → aM → Prop} {v1 v2 v3 v4 v5 v6 : Option Value} {x : Nat} : AW d 300 1397 [some (.ref x), v1, v2, v3, v4, v5, v6] st h Q ↔ AW d 300 1398 [some (.ref x), v1, v2, v3, v4, v5, v6] (.ref x :: st) h Q := w_st rfl rfl rfl rfl rfl
set_option maxRecDepth 20000 in
theorem s300_1398 {d : Nat} {st : List Value} {h : aM} {Q : Option Value → aM → Prop} {v0 v1 v2 v3 v5 v6 : Option Value} {x : Int32} : AW d 300 1398 [v0, v1, v2, v3, some (.int x), v5, v6] st h Q ↔ AW d 300 1400 [v0, v1, v2, v3, some (.int x), v5, v6] (.int x :: st) h Q := w_st rfl rfl rfl rfl rfl
set_option maxRecDepth 20000 in
theorem s300_1400 {d : Nat} {st : List Value} {h : aM} {Q : Option Value → aM → Prop} {lv : aV} : AW d 300 1400 lv st h Q ↔ AW d 300 1401 lv (.int 2 :: st) h Q := w_st rfl rfl rfl rfl rfl
set_option maxRecDepth 20000 in
theorem s300_1401 {d : Nat} {st : List Value} {h : aM} {Q : Option Value → aM → Prop} {lv : aV} {x y : Int32} : AW d 300 1401 lv (.int y :: .int x :: st) h Q ↔ AW d 300 1402 lv (.int (x + y) :: st) h Q := w_st rfl rfl rfl rfl rfl
set_option maxRecDepth 20000 in
theorem s300_1402 {d : Nat} {st : List Value} {h : aM} {Q : Option Value → aM → Prop} {lv : aV} {a : Nat} {i : Int32} : AW d 300 1402 lv (.int i :: .ref a :: st) h Q ↔ inA h a 100 i ∧ AW d 300 1403 lv (.int (gi h a i.toNatClampNeg) :: st) h Q := w_ite rfl rfl rfl rfl rfl aArr_iff
set_option maxRecDepth 20000 in
theorem s300_1403 {d : Nat} {st : List Value} {h : aM} {Q : Option Value → aM → Prop} {v1 v2 v3 v4 v5 v6 : Option Value} {x : Nat} : AW d 300 1403 [some (.ref x), v1, v2, v3, v4, v5, v6] st h Q ↔ AW d 300 1404 [some (.ref x), v1, v2, v3, v4, v5, v6] (.ref x :: st) h Q := w_st rfl rfl rfl rfl rfl
set_option maxRecDepth 20000 in
theorem s300_1404 {d : Nat} {st : List Value} {h : aM} {Q : Option Value → aM → Prop} {v0 v1 v2 v3 v5 v6 : Option Value} {x : Int32} : AW d 300 1404 [v0, v1, v2, v3, some (.int x), v5, v6] st h Q ↔ AW d 300 1406 [v0, v1, v2, v3, some (.int x), v5, v6] (.int x :: st) h Q := w_st rfl rfl rfl rfl rfl
set_option maxRecDepth 20000 in
theorem s300_1406 {d : Nat} {st : List Value} {h : aM} {Q : Option Value → aM → Prop} {lv : aV} : AW d 300 1406 lv st h Q ↔ AW d 300 1407 lv (.int 3 :: st) h Q := w_st rfl rfl rfl rfl rfl
set_option maxRecDepth 20000 in
theorem s300_1407 {d : Nat} {st : List Value} {h : aM} {Q : Option Value → aM → Prop} {lv : aV} {x y : Int32} : AW d 300 1407 lv (.int y :: .int x :: st) h Q ↔ AW d 300 1408 lv (.int (x + y) :: st) h Q := w_st rfl rfl rfl rfl rfl
set_option maxRecDepth 20000 in
theorem s300_1408 {d : Nat} {st : List Value} {h : aM} {Q : Option Value → aM → Prop} {lv : aV} {a : Nat} {i : Int32} : AW d 300 1408 lv (.int i :: .ref a :: st) h Q ↔ inA h a 100 i ∧ AW d 300 1409 lv (.int (gi h a i.toNatClampNeg) :: st) h Q := w_ite rfl rfl rfl rfl rfl aArr_iff
set_option maxRecDepth 20000 in
theorem s300_1409 {d : Nat} {st : List Value} {h : aM} {Q : Option Value → aM → Prop} {v1 v2 v3 v4 v5 v6 : Option Value} {x : Nat} : AW d 300 1409 [some (.ref x), v1, v2, v3, v4, v5, v6] st h Q ↔ AW d 300 1410 [some (.ref x), v1, v2, v3, v4, v5, v6] (.ref x :: st) h Q := w_st rfl rfl rfl rfl rfl
set_option maxRecDepth 20000 in
theorem s300_1410 {d : Nat} {st : List Value} {h : aM} {Q : Option Value → aM → Prop} {v0 v1 v2 v3 v5 v6 : Option Value} {x : Int32} : AW d 300 1410 [v0, v1, v2, v3, some (.int x), v5, v6] st h Q ↔ AW d 300 1412 [v0, v1, v2, v3, some (.int x), v5, v6] (.int x :: st) h Q := w_st rfl rfl rfl rfl rfl
set_option maxRecDepth 20000 in
theorem s300_1412 {d : Nat} {st : List Value} {h : aM} {Q : Option Value → aM → Prop} {lv : aV} : AW d 300 1412 lv st h Q ↔ AW d 300 1413 lv (.int 4 :: st) h Q := w_st rfl rfl rfl rfl rfl
set_option maxRecDepth 20000 in
theorem s300_1413 {d : Nat} {st : List Value} {h : aM} {Q : Option Value → aM → Prop} {lv : aV} {x y : Int32} : AW d 300 1413 lv (.int y :: .int x :: st) h Q ↔ AW d 300 1414 lv (.int (x + y) :: st) h Q := w_st rfl rfl rfl rfl rfl
set_option maxRecDepth 20000 in
theorem s300_1414 {d : Nat} {st : List Value} {h : aM} {Q : Option Value → aM → Prop} {lv : aV} {a : Nat} {i : Int32} : AW d 300 1414 lv (.int i :: .ref a :: st) h Q ↔ inA h a 100 i ∧ AW d 300 1415 lv (.int (gi h a i.toNatClampNeg) :: st) h Q := w_ite rfl rfl rfl rfl rfl aArr_iff
set_option maxRecDepth 20000 in
theorem s300_1415 {d : Nat} {st : List Value} {h : aM} {Q : Option Value → aM → Prop} {v1 v2 v3 v4 v5 v6 : Option Value} {x : Nat} : AW d 300 1415 [some (.ref x), v1, v2, v3, v4, v5, v6] st h Q ↔ AW d 300 1416 [some (.ref x), v1, v2, v3, v4, v5, v6] (.ref x :: st) h Q := w_st rfl rfl rfl rfl rfl
set_option maxRecDepth 20000 in
theorem s300_1416 {d : Nat} {st : List Value} {h : aM} {Q : Option Value → aM → Prop} {v0 v1 v2 v3 v5 v6 : Option Value} {x : Int32} : AW d 300 1416 [v0, v1, v2, v3, some (.int x), v5, v6] st h Q ↔ AW d 300 1418 [v0, v1, v2, v3, some (.int x), v5, v6] (.int x :: st) h Q := w_st rfl rfl rfl rfl rfl
set_option maxRecDepth 20000 in
theorem s300_1418 {d : Nat} {st : List Value} {h : aM} {Q : Option Value → aM → Prop} {lv : aV} : AW d 300 1418 lv st h Q ↔ AW d 300 1419 lv (.int 5 :: st) h Q := w_st rfl rfl rfl rfl rfl
set_option maxRecDepth 20000 in
theorem s300_1419 {d : Nat} {st : List Value} {h : aM} {Q : Option Value → aM → Prop} {lv : aV} {x y : Int32} : AW d 300 1419 lv (.int y :: .int x :: st) h Q ↔ AW d 300 1420 lv (.int (x + y) :: st) h Q := w_st rfl rfl rfl rfl rfl
set_option maxRecDepth 20000 in
theorem s300_1420 {d : Nat} {st : List Value} {h : aM} {Q : Option Value → aM → Prop} {lv : aV} {a : Nat} {i : Int32} : AW d 300 1420 lv (.int i :: .ref a :: st) h Q ↔ inA h a 100 i ∧ AW d 300 1421 lv (.int (gi h a i.toNatClampNeg) :: st) h Q := w_ite rfl rfl rfl rfl rfl aArr_iff
set_option maxRecDepth 20000 in
theorem s300_1421 {d : Nat} {st : List Value} {h : aM} {Q : Option Value → aM → Prop} {lv : aV} {a : Nat} {x0 : Int32} {x1 : Int32} {x2 : Int32} {x3 : Int32} {x4 : Int32} : AW (d + 1) 300 1421 lv (.int x4 :: .int x3 :: .int x2 :: .int x1 :: .int x0 :: .ref a :: st) h Q ↔ (sh h a = some (11, 50) ∧ cs st ≤ 8) ∧ AW d 263 0 [some (.ref a), some (.int x0), some (.int x1), some (.int x2), some (.int x3), some (.int x4)] [] h (fun v h => AW (d + 1) 300 1424 lv (v.toList ++ st) h Q) := w_c (k := 300) (pc := 1421) (pc' := 1424) (as := [.ref a, .int x0, .int x1, .int x2, .int x3, .int x4]) (st := st) (st' := (.int x4 :: .int x3 :: .int x2 :: .int x1 :: .int x0 :: .ref a :: st)) (lv' := [some (.ref a), some (.int x0), some (.int x1), some (.int x2), some (.int x3), some (.int x4)]) (h := h) (r3 := 11) rfl rfl rfl mi263 rfl rfl (Nat.le_of_ble_eq_true rfl) (rc_v rfl) rfl rfl
set_option maxRecDepth 20000 in
theorem s300_1424 {d : Nat} {st : List Value} {h : aM} {Q : Option Value → aM → Prop} {lv : aV} {x y : Int32} : AW d 300 1424 lv (.int y :: .int x :: st) h Q ↔ if x = y then AW d 300 1703 lv st h Q else AW d 300 1427 lv st h Q := w_if rfl rfl rfl rfl rfl c2_eq
set_option maxRecDepth 20000 in
theorem s300_1427 {d : Nat} {st : List Value} {h : aM} {Q : Option Value → aM → Prop} {lv : aV} : AW d 300 1427 lv st h Q ↔ AW d 300 1428 lv (.int 0 :: st) h Q := w_st rfl rfl rfl rfl rfl
set_option maxRecDepth 20000 in
theorem s300_1428 {d : Nat} {h : aM} {Q : Option Value → aM → Prop} {lv : aV} {x : Int32} : AW d 300 1428 lv [.int x] h Q ↔ narrow .boolean (.int x) = .int x ∧ Q (some (.int x)) h := w_rz rfl rfl
set_option maxRecDepth 20000 in
theorem s300_1429 {d : Nat} {st : List Value} {h : aM} {Q : Option Value → aM → Prop} {v0 v2 v3 v4 v5 v6 : Option Value} {x : Nat} : AW d 300 1429 [v0, some (.ref x), v2, v3, v4, v5, v6] st h Q ↔ AW d 300 1430 [v0, some (.ref x), v2, v3, v4, v5, v6] (.ref x :: st) h Q := w_st rfl rfl rfl rfl rfl
set_option maxRecDepth 20000 in
theorem s300_1430 {d : Nat} {st : List Value} {h : aM} {Q : Option Value → aM → Prop} {v1 v2 v3 v4 v5 v6 : Option Value} {x : Nat} : AW d 300 1430 [some (.ref x), v1, v2, v3, v4, v5, v6] st h Q ↔ AW d 300 1431 [some (.ref x), v1, v2, v3, v4, v5, v6] (.ref x :: st) h Q := w_st rfl rfl rfl rfl rfl
set_option maxRecDepth 20000 in
theorem s300_1431 {d : Nat} {st : List Value} {h : aM} {Q : Option Value → aM → Prop} {v0 v1 v2 v3 v5 v6 : Option Value} {x : Int32} : AW d 300 1431 [v0, v1, v2, v3, some (.int x), v5, v6] st h Q ↔ AW d 300 1433 [v0, v1, v2, v3, some (.int x), v5, v6] (.int x :: st) h Q := w_st rfl rfl rfl rfl rfl
set_option maxRecDepth 20000 in
theorem s300_1433 {d : Nat} {st : List Value} {h : aM} {Q : Option Value → aM → Prop} {lv : aV} : AW d 300 1433 lv st h Q ↔ AW d 300 1434 lv (.int 1 :: st) h Q := w_st rfl rfl rfl rfl rfl
set_option maxRecDepth 20000 in
theorem s300_1434 {d : Nat} {st : List Value} {h : aM} {Q : Option Value → aM → Prop} {lv : aV} {x y : Int32} : AW d 300 1434 lv (.int y :: .int x :: st) h Q ↔ AW d 300 1435 lv (.int (x + y) :: st) h Q := w_st rfl rfl rfl rfl rfl
set_option maxRecDepth 20000 in
theorem s300_1435 {d : Nat} {st : List Value} {h : aM} {Q : Option Value → aM → Prop} {lv : aV} {a : Nat} {i : Int32} : AW d 300 1435 lv (.int i :: .ref a :: st) h Q ↔ inA h a 100 i ∧ AW d 300 1436 lv (.int (gi h a i.toNatClampNeg) :: st) h Q := w_ite rfl rfl rfl rfl rfl aArr_iff
set_option maxRecDepth 20000 in
theorem s300_1436 {d : Nat} {st : List Value} {h : aM} {Q : Option Value → aM → Prop} {v1 v2 v3 v4 v5 v6 : Option Value} {x : Nat} : AW d 300 1436 [some (.ref x), v1, v2, v3, v4, v5, v6] st h Q ↔ AW d 300 1437 [some (.ref x), v1, v2, v3, v4, v5, v6] (.ref x :: st) h Q := w_st rfl rfl rfl rfl rfl
set_option maxRecDepth 20000 in
theorem s300_1437 {d : Nat} {st : List Value} {h : aM} {Q : Option Value → aM → Prop} {v0 v1 v2 v3 v5 v6 : Option Value} {x : Int32} : AW d 300 1437 [v0, v1, v2, v3, some (.int x), v5, v6] st h Q ↔ AW d 300 1439 [v0, v1, v2, v3, some (.int x), v5, v6] (.int x :: st) h Q := w_st rfl rfl rfl rfl rfl
set_option maxRecDepth 20000 in
theorem s300_1439 {d : Nat} {st : List Value} {h : aM} {Q : Option Value → aM → Prop} {lv : aV} : AW d 300 1439 lv st h Q ↔ AW d 300 1440 lv (.int 2 :: st) h Q := w_st rfl rfl rfl rfl rfl
set_option maxRecDepth 20000 in
theorem s300_1440 {d : Nat} {st : List Value} {h : aM} {Q : Option Value → aM → Prop} {lv : aV} {x y : Int32} : AW d 300 1440 lv (.int y :: .int x :: st) h Q ↔ AW d 300 1441 lv (.int (x + y) :: st) h Q := w_st rfl rfl rfl rfl rfl
set_option maxRecDepth 20000 in
theorem s300_1441 {d : Nat} {st : List Value} {h : aM} {Q : Option Value → aM → Prop} {lv : aV} {a : Nat} {i : Int32} : AW d 300 1441 lv (.int i :: .ref a :: st) h Q ↔ inA h a 100 i ∧ AW d 300 1442 lv (.int (gi h a i.toNatClampNeg) :: st) h Q := w_ite rfl rfl rfl rfl rfl aArr_iff
set_option maxRecDepth 20000 in
theorem s300_1442 {d : Nat} {st : List Value} {h : aM} {Q : Option Value → aM → Prop} {v1 v2 v3 v4 v5 v6 : Option Value} {x : Nat} : AW d 300 1442 [some (.ref x), v1, v2, v3, v4, v5, v6] st h Q ↔ AW d 300 1443 [some (.ref x), v1, v2, v3, v4, v5, v6] (.ref x :: st) h Q := w_st rfl rfl rfl rfl rfl
set_option maxRecDepth 20000 in
theorem s300_1443 {d : Nat} {st : List Value} {h : aM} {Q : Option Value → aM → Prop} {v0 v1 v2 v3 v5 v6 : Option Value} {x : Int32} : AW d 300 1443 [v0, v1, v2, v3, some (.int x), v5, v6] st h Q ↔ AW d 300 1445 [v0, v1, v2, v3, some (.int x), v5, v6] (.int x :: st) h Q := w_st rfl rfl rfl rfl rfl
set_option maxRecDepth 20000 in
theorem s300_1445 {d : Nat} {st : List Value} {h : aM} {Q : Option Value → aM → Prop} {lv : aV} : AW d 300 1445 lv st h Q ↔ AW d 300 1446 lv (.int 3 :: st) h Q := w_st rfl rfl rfl rfl rfl
set_option maxRecDepth 20000 in
theorem s300_1446 {d : Nat} {st : List Value} {h : aM} {Q : Option Value → aM → Prop} {lv : aV} {x y : Int32} : AW d 300 1446 lv (.int y :: .int x :: st) h Q ↔ AW d 300 1447 lv (.int (x + y) :: st) h Q := w_st rfl rfl rfl rfl rfl
set_option maxRecDepth 20000 in
theorem s300_1447 {d : Nat} {st : List Value} {h : aM} {Q : Option Value → aM → Prop} {lv : aV} {a : Nat} {i : Int32} : AW d 300 1447 lv (.int i :: .ref a :: st) h Q ↔ inA h a 100 i ∧ AW d 300 1448 lv (.int (gi h a i.toNatClampNeg) :: st) h Q := w_ite rfl rfl rfl rfl rfl aArr_iff
set_option maxRecDepth 20000 in
theorem s300_1448 {d : Nat} {st : List Value} {h : aM} {Q : Option Value → aM → Prop} {lv : aV} {a : Nat} {x0 : Int32} {x1 : Int32} {x2 : Int32} : AW (d + 1) 300 1448 lv (.int x2 :: .int x1 :: .int x0 :: .ref a :: st) h Q ↔ (sh h a = some (10, 19) ∧ cs st ≤ 8) ∧ AW d 146 0 [some (.ref a), some (.int x0), some (.int x1), some (.int x2), none, none] [] h (fun v h => AW (d + 1) 300 1451 lv (v.toList ++ st) h Q) := w_c (k := 300) (pc := 1448) (pc' := 1451) (as := [.ref a, .int x0, .int x1, .int x2]) (st := st) (st' := (.int x2 :: .int x1 :: .int x0 :: .ref a :: st)) (lv' := [some (.ref a), some (.int x0), some (.int x1), some (.int x2), none, none]) (h := h) (r3 := 10) rfl rfl rfl mi146 rfl rfl (Nat.le_of_ble_eq_true rfl) (rc_v rfl) rfl rfl
set_option maxRecDepth 20000 in
theorem s300_1451 {d : Nat} {st : List Value} {h : aM} {Q : Option Value → aM → Prop} {v0 v1 v3 v4 v5 v6 : Option Value} {x : Nat} : AW d 300 1451 [v0, v1, some (.ref x), v3, v4, v5, v6] st h Q ↔ AW d 300 1452 [v0, v1, some (.ref x), v3, v4, v5, v6] (.ref x :: st) h Q := w_st rfl rfl rfl rfl rfl
set_option maxRecDepth 20000 in
theorem s300_1452 {d : Nat} {st : List Value} {h : aM} {Q : Option Value → aM → Prop} {v1 v2 v3 v4 v5 v6 : Option Value} {x : Nat} : AW d 300 1452 [some (.ref x), v1, v2, v3, v4, v5, v6] st h Q ↔ AW d 300 1453 [some (.ref x), v1, v2, v3, v4, v5, v6] (.ref x :: st) h Q := w_st rfl rfl rfl rfl rfl
set_option maxRecDepth 20000 in
theorem s300_1453 {d : Nat} {st : List Value} {h : aM} {Q : Option Value → aM → Prop} {v0 v1 v2 v3 v5 v6 : Option Value} {x : Int32} : AW d 300 1453 [v0, v1, v2, v3, some (.int x), v5, v6] st h Q ↔ AW d 300 1455 [v0, v1, v2, v3, some (.int x), v5, v6] (.int x :: st) h Q := w_st rfl rfl rfl rfl rfl
set_option maxRecDepth 20000 in
theorem s300_1455 {d : Nat} {st : List Value} {h : aM} {Q : Option Value → aM → Prop} {lv : aV} : AW d 300 1455 lv st h Q ↔ AW d 300 1456 lv (.int 1 :: st) h Q := w_st rfl rfl rfl rfl rfl
set_option maxRecDepth 20000 in
theorem s300_1456 {d : Nat} {st : List Value} {h : aM} {Q : Option Value → aM → Prop} {lv : aV} {x y : Int32} : AW d 300 1456 lv (.int y :: .int x :: st) h Q ↔ AW d 300 1457 lv (.int (x + y) :: st) h Q := w_st rfl rfl rfl rfl rfl
set_option maxRecDepth 20000 in
theorem s300_1457 {d : Nat} {st : List Value} {h : aM} {Q : Option Value → aM → Prop} {lv : aV} {a : Nat} {i : Int32} : AW d 300 1457 lv (.int i :: .ref a :: st) h Q ↔ inA h a 100 i ∧ AW d 300 1458 lv (.int (gi h a i.toNatClampNeg) :: st) h Q := w_ite rfl rfl rfl rfl rfl aArr_iff
set_option maxRecDepth 20000 in
theorem s300_1458 {d : Nat} {st : List Value} {h : aM} {Q : Option Value → aM → Prop} {v1 v2 v3 v4 v5 v6 : Option Value} {x : Nat} : AW d 300 1458 [some (.ref x), v1, v2, v3, v4, v5, v6] st h Q ↔ AW d 300 1459 [some (.ref x), v1, v2, v3, v4, v5, v6] (.ref x :: st) h Q := w_st rfl rfl rfl rfl rfl
set_option maxRecDepth 20000 in
theorem s300_1459 {d : Nat} {st : List Value} {h : aM} {Q : Option Value → aM → Prop} {v0 v1 v2 v3 v5 v6 : Option Value} {x : Int32} : AW d 300 1459 [v0, v1, v2, v3, some (.int x), v5, v6] st h Q ↔ AW d 300 1461 [v0, v1, v2, v3, some (.int x), v5, v6] (.int x :: st) h Q := w_st rfl rfl rfl rfl rfl
set_option maxRecDepth 20000 in
theorem s300_1461 {d : Nat} {st : List Value} {h : aM} {Q : Option Value → aM → Prop} {lv : aV} : AW d 300 1461 lv st h Q ↔ AW d 300 1462 lv (.int 2 :: st) h Q := w_st rfl rfl rfl rfl rfl
set_option maxRecDepth 20000 in
theorem s300_1462 {d : Nat} {st : List Value} {h : aM} {Q : Option Value → aM → Prop} {lv : aV} {x y : Int32} : AW d 300 1462 lv (.int y :: .int x :: st) h Q ↔ AW d 300 1463 lv (.int (x + y) :: st) h Q := w_st rfl rfl rfl rfl rfl
set_option maxRecDepth 20000 in
theorem s300_1463 {d : Nat} {st : List Value} {h : aM} {Q : Option Value → aM → Prop} {lv : aV} {a : Nat} {i : Int32} : AW d 300 1463 lv (.int i :: .ref a :: st) h Q ↔ inA h a 100 i ∧ AW d 300 1464 lv (.int (gi h a i.toNatClampNeg) :: st) h Q := w_ite rfl rfl rfl rfl rfl aArr_iff
set_option maxRecDepth 20000 in
theorem s300_1464 {d : Nat} {st : List Value} {h : aM} {Q : Option Value → aM → Prop} {v1 v2 v3 v4 v5 v6 : Option Value} {x : Nat} : AW d 300 1464 [some (.ref x), v1, v2, v3, v4, v5, v6] st h Q ↔ AW d 300 1465 [some (.ref x), v1, v2, v3, v4, v5, v6] (.ref x :: st) h Q := w_st rfl rfl rfl rfl rfl
set_option maxRecDepth 20000 in
theorem s300_1465 {d : Nat} {st : List Value} {h : aM} {Q : Option Value → aM → Prop} {v0 v1 v2 v3 v5 v6 : Option Value} {x : Int32} : AW d 300 1465 [v0, v1, v2, v3, some (.int x), v5, v6] st h Q ↔ AW d 300 1467 [v0, v1, v2, v3, some (.int x), v5, v6] (.int x :: st) h Q := w_st rfl rfl rfl rfl rfl
set_option maxRecDepth 20000 in
theorem s300_1467 {d : Nat} {st : List Value} {h : aM} {Q : Option Value → aM → Prop} {lv : aV} : AW d 300 1467 lv st h Q ↔ AW d 300 1468 lv (.int 3 :: st) h Q := w_st rfl rfl rfl rfl rfl
set_option maxRecDepth 20000 in
theorem s300_1468 {d : Nat} {st : List Value} {h : aM} {Q : Option Value → aM → Prop} {lv : aV} {x y : Int32} : AW d 300 1468 lv (.int y :: .int x :: st) h Q ↔ AW d 300 1469 lv (.int (x + y) :: st) h Q := w_st rfl rfl rfl rfl rfl
set_option maxRecDepth 20000 in
theorem s300_1469 {d : Nat} {st : List Value} {h : aM} {Q : Option Value → aM → Prop} {lv : aV} {a : Nat} {i : Int32} : AW d 300 1469 lv (.int i :: .ref a :: st) h Q ↔ inA h a 100 i ∧ AW d 300 1470 lv (.int (gi h a i.toNatClampNeg) :: st) h Q := w_ite rfl rfl rfl rfl rfl aArr_iff
set_option maxRecDepth 20000 in
theorem s300_1470 {d : Nat} {st : List Value} {h : aM} {Q : Option Value → aM → Prop} {lv : aV} {a : Nat} {x0 : Int32} {x1 : Int32} {x2 : Int32} : AW (d + 1) 300 1470 lv (.int x2 :: .int x1 :: .int x0 :: .ref a :: st) h Q ↔ (sh h a = some (11, 50) ∧ cs st ≤ 8) ∧ AW d 265 0 [some (.ref a), some (.int x0), some (.int x1), some (.int x2), none, none] [] h (fun v h => AW (d + 1) 300 1473 lv (v.toList ++ st) h Q) := w_c (k := 300) (pc := 1470) (pc' := 1473) (as := [.ref a, .int x0, .int x1, .int x2]) (st := st) (st' := (.int x2 :: .int x1 :: .int x0 :: .ref a :: st)) (lv' := [some (.ref a), some (.int x0), some (.int x1), some (.int x2), none, none]) (h := h) (r3 := 11) rfl rfl rfl mi265 rfl rfl (Nat.le_of_ble_eq_true rfl) (rc_v rfl) rfl rfl
set_option maxRecDepth 20000 in
theorem s300_1473 {d : Nat} {st : List Value} {h : aM} {Q : Option Value → aM → Prop} {lv : aV} {x y : Int32} : AW d 300 1473 lv (.int y :: .int x :: st) h Q ↔ if x = y then AW d 300 1703 lv st h Q else AW d 300 1476 lv st h Q := w_if rfl rfl rfl rfl rfl c2_eq
set_option maxRecDepth 20000 in
theorem s300_1476 {d : Nat} {st : List Value} {h : aM} {Q : Option Value → aM → Prop} {lv : aV} : AW d 300 1476 lv st h Q ↔ AW d 300 1477 lv (.int 0 :: st) h Q := w_st rfl rfl rfl rfl rfl
set_option maxRecDepth 20000 in
theorem s300_1477 {d : Nat} {h : aM} {Q : Option Value → aM → Prop} {lv : aV} {x : Int32} : AW d 300 1477 lv [.int x] h Q ↔ narrow .boolean (.int x) = .int x ∧ Q (some (.int x)) h := w_rz rfl rfl
set_option maxRecDepth 20000 in
theorem s300_1478 {d : Nat} {st : List Value} {h : aM} {Q : Option Value → aM → Prop} {v0 v2 v3 v4 v5 v6 : Option Value} {x : Nat} : AW d 300 1478 [v0, some (.ref x), v2, v3, v4, v5, v6] st h Q ↔ AW d 300 1479 [v0, some (.ref x), v2, v3, v4, v5, v6] (.ref x :: st) h Q := w_st rfl rfl rfl rfl rfl
set_option maxRecDepth 20000 in
theorem s300_1479 {d : Nat} {st : List Value} {h : aM} {Q : Option Value → aM → Prop} {v1 v2 v3 v4 v5 v6 : Option Value} {x : Nat} : AW d 300 1479 [some (.ref x), v1, v2, v3, v4, v5, v6] st h Q ↔ AW d 300 1480 [some (.ref x), v1, v2, v3, v4, v5, v6] (.ref x :: st) h Q := w_st rfl rfl rfl rfl rfl
set_option maxRecDepth 20000 in
theorem s300_1480 {d : Nat} {st : List Value} {h : aM} {Q : Option Value → aM → Prop} {v0 v1 v2 v3 v5 v6 : Option Value} {x : Int32} : AW d 300 1480 [v0, v1, v2, v3, some (.int x), v5, v6] st h Q ↔ AW d 300 1482 [v0, v1, v2, v3, some (.int x), v5, v6] (.int x :: st) h Q := w_st rfl rfl rfl rfl rfl
set_option maxRecDepth 20000 in
theorem s300_1482 {d : Nat} {st : List Value} {h : aM} {Q : Option Value → aM → Prop} {lv : aV} : AW d 300 1482 lv st h Q ↔ AW d 300 1483 lv (.int 1 :: st) h Q := w_st rfl rfl rfl rfl rfl
set_option maxRecDepth 20000 in
theorem s300_1483 {d : Nat} {st : List Value} {h : aM} {Q : Option Value → aM → Prop} {lv : aV} {x y : Int32} : AW d 300 1483 lv (.int y :: .int x :: st) h Q ↔ AW d 300 1484 lv (.int (x + y) :: st) h Q := w_st rfl rfl rfl rfl rfl
set_option maxRecDepth 20000 in
theorem s300_1484 {d : Nat} {st : List Value} {h : aM} {Q : Option Value → aM → Prop} {lv : aV} {a : Nat} {i : Int32} : AW d 300 1484 lv (.int i :: .ref a :: st) h Q ↔ inA h a 100 i ∧ AW d 300 1485 lv (.int (gi h a i.toNatClampNeg) :: st) h Q := w_ite rfl rfl rfl rfl rfl aArr_iff
set_option maxRecDepth 20000 in
theorem s300_1485 {d : Nat} {st : List Value} {h : aM} {Q : Option Value → aM → Prop} {v1 v2 v3 v4 v5 v6 : Option Value} {x : Nat} : AW d 300 1485 [some (.ref x), v1, v2, v3, v4, v5, v6] st h Q ↔ AW d 300 1486 [some (.ref x), v1, v2, v3, v4, v5, v6] (.ref x :: st) h Q := w_st rfl rfl rfl rfl rfl
set_option maxRecDepth 20000 in
theorem s300_1486 {d : Nat} {st : List Value} {h : aM} {Q : Option Value → aM → Prop} {v0 v1 v2 v3 v5 v6 : Option Value} {x : Int32} : AW d 300 1486 [v0, v1, v2, v3, some (.int x), v5, v6] st h Q ↔ AW d 300 1488 [v0, v1, v2, v3, some (.int x), v5, v6] (.int x :: st) h Q := w_st rfl rfl rfl rfl rfl
set_option maxRecDepth 20000 in
theorem s300_1488 {d : Nat} {st : List Value} {h : aM} {Q : Option Value → aM → Prop} {lv : aV} : AW d 300 1488 lv st h Q ↔ AW d 300 1489 lv (.int 2 :: st) h Q := w_st rfl rfl rfl rfl rfl
set_option maxRecDepth 20000 in
theorem s300_1489 {d : Nat} {st : List Value} {h : aM} {Q : Option Value → aM → Prop} {lv : aV} {x y : Int32} : AW d 300 1489 lv (.int y :: .int x :: st) h Q ↔ AW d 300 1490 lv (.int (x + y) :: st) h Q := w_st rfl rfl rfl rfl rfl
set_option maxRecDepth 20000 in
theorem s300_1490 {d : Nat} {st : List Value} {h : aM} {Q : Option Value → aM → Prop} {lv : aV} {a : Nat} {i : Int32} : AW d 300 1490 lv (.int i :: .ref a :: st) h Q ↔ inA h a 100 i ∧ AW d 300 1491 lv (.int (gi h a i.toNatClampNeg) :: st) h Q := w_ite rfl rfl rfl rfl rfl aArr_iff
set_option maxRecDepth 20000 in
theorem s300_1491 {d : Nat} {st : List Value} {h : aM} {Q : Option Value → aM → Prop} {lv : aV} {a : Nat} {x0 : Int32} {x1 : Int32} : AW (d + 1) 300 1491 lv (.int x1 :: .int x0 :: .ref a :: st) h Q ↔ (sh h a = some (10, 19) ∧ cs st ≤ 8) ∧ AW d 151 0 [some (.ref a), some (.int x0), some (.int x1)] [] h (fun v h => AW (d + 1) 300 1494 lv (v.toList ++ st) h Q) := w_c (k := 300) (pc := 1491) (pc' := 1494) (as := [.ref a, .int x0, .int x1]) (st := st) (st' := (.int x1 :: .int x0 :: .ref a :: st)) (lv' := [some (.ref a), some (.int x0), some (.int x1)]) (h := h) (r3 := 10) rfl rfl rfl mi151 rfl rfl (Nat.le_of_ble_eq_true rfl) (rc_v rfl) rfl rfl
set_option maxRecDepth 20000 in
theorem s300_1494 {d : Nat} {st : List Value} {h : aM} {Q : Option Value → aM → Prop} {v0 v1 v3 v4 v5 v6 : Option Value} {x : Nat} : AW d 300 1494 [v0, v1, some (.ref x), v3, v4, v5, v6] st h Q ↔ AW d 300 1495 [v0, v1, some (.ref x), v3, v4, v5, v6] (.ref x :: st) h Q := w_st rfl rfl rfl rfl rfl
set_option maxRecDepth 20000 in
theorem s300_1495 {d : Nat} {st : List Value} {h : aM} {Q : Option Value → aM → Prop} {v1 v2 v3 v4 v5 v6 : Option Value} {x : Nat} : AW d 300 1495 [some (.ref x), v1, v2, v3, v4, v5, v6] st h Q ↔ AW d 300 1496 [some (.ref x), v1, v2, v3, v4, v5, v6] (.ref x :: st) h Q := w_st rfl rfl rfl rfl rfl
set_option maxRecDepth 20000 in
theorem s300_1496 {d : Nat} {st : List Value} {h : aM} {Q : Option Value → aM → Prop} {v0 v1 v2 v3 v5 v6 : Option Value} {x : Int32} : AW d 300 1496 [v0, v1, v2, v3, some (.int x), v5, v6] st h Q ↔ AW d 300 1498 [v0, v1, v2, v3, some (.int x), v5, v6] (.int x :: st) h Q := w_st rfl rfl rfl rfl rfl
set_option maxRecDepth 20000 in
theorem s300_1498 {d : Nat} {st : List Value} {h : aM} {Q : Option Value → aM → Prop} {lv : aV} : AW d 300 1498 lv st h Q ↔ AW d 300 1499 lv (.int 1 :: st) h Q := w_st rfl rfl rfl rfl rfl
set_option maxRecDepth 20000 in
theorem s300_1499 {d : Nat} {st : List Value} {h : aM} {Q : Option Value → aM → Prop} {lv : aV} {x y : Int32} : AW d 300 1499 lv (.int y :: .int x :: st) h Q ↔ AW d 300 1500 lv (.int (x + y) :: st) h Q := w_st rfl rfl rfl rfl rfl
set_option maxRecDepth 20000 in
theorem s300_1500 {d : Nat} {st : List Value} {h : aM} {Q : Option Value → aM → Prop} {lv : aV} {a : Nat} {i : Int32} : AW d 300 1500 lv (.int i :: .ref a :: st) h Q ↔ inA h a 100 i ∧ AW d 300 1501 lv (.int (gi h a i.toNatClampNeg) :: st) h Q := w_ite rfl rfl rfl rfl rfl aArr_iff
set_option maxRecDepth 20000 in
theorem s300_1501 {d : Nat} {st : List Value} {h : aM} {Q : Option Value → aM → Prop} {v1 v2 v3 v4 v5 v6 : Option Value} {x : Nat} : AW d 300 1501 [some (.ref x), v1, v2, v3, v4, v5, v6] st h Q ↔ AW d 300 1502 [some (.ref x), v1, v2, v3, v4, v5, v6] (.ref x :: st) h Q := w_st rfl rfl rfl rfl rfl
set_option maxRecDepth 20000 in
theorem s300_1502 {d : Nat} {st : List Value} {h : aM} {Q : Option Value → aM → Prop} {v0 v1 v2 v3 v5 v6 : Option Value} {x : Int32} : AW d 300 1502 [v0, v1, v2, v3, some (.int x), v5, v6] st h Q ↔ AW d 300 1504 [v0, v1, v2, v3, some (.int x), v5, v6] (.int x :: st) h Q := w_st rfl rfl rfl rfl rfl
set_option maxRecDepth 20000 in
theorem s300_1504 {d : Nat} {st : List Value} {h : aM} {Q : Option Value → aM → Prop} {lv : aV} : AW d 300 1504 lv st h Q ↔ AW d 300 1505 lv (.int 2 :: st) h Q := w_st rfl rfl rfl rfl rfl
set_option maxRecDepth 20000 in
theorem s300_1505 {d : Nat} {st : List Value} {h : aM} {Q : Option Value → aM → Prop} {lv : aV} {x y : Int32} : AW d 300 1505 lv (.int y :: .int x :: st) h Q ↔ AW d 300 1506 lv (.int (x + y) :: st) h Q := w_st rfl rfl rfl rfl rfl
set_option maxRecDepth 20000 in
theorem s300_1506 {d : Nat} {st : List Value} {h : aM} {Q : Option Value → aM → Prop} {lv : aV} {a : Nat} {i : Int32} : AW d 300 1506 lv (.int i :: .ref a :: st) h Q ↔ inA h a 100 i ∧ AW d 300 1507 lv (.int (gi h a i.toNatClampNeg) :: st) h Q := w_ite rfl rfl rfl rfl rfl aArr_iff
set_option maxRecDepth 20000 in
theorem s300_1507 {d : Nat} {st : List Value} {h : aM} {Q : Option Value → aM → Prop} {lv : aV} {a : Nat} {x0 : Int32} {x1 : Int32} : AW (d + 1) 300 1507 lv (.int x1 :: .int x0 :: .ref a :: st) h Q ↔ (sh h a = some (11, 50) ∧ cs st ≤ 8) ∧ AW d 266 0 [some (.ref a), some (.int x0), some (.int x1), none, none, none, none, none, none, none, none] [] h (fun v h => AW (d + 1) 300 1510 lv (v.toList ++ st) h Q) := w_c (k := 300) (pc := 1507) (pc' := 1510) (as := [.ref a, .int x0, .int x1]) (st := st) (st' := (.int x1 :: .int x0 :: .ref a :: st)) (lv' := [some (.ref a), some (.int x0), some (.int x1), none, none, none, none, none, none, none, none]) (h := h) (r3 := 11) rfl rfl rfl mi266 rfl rfl (Nat.le_of_ble_eq_true rfl) (rc_v rfl) rfl rfl
set_option maxRecDepth 20000 in
theorem s300_1510 {d : Nat} {st : List Value} {h : aM} {Q : Option Value → aM → Prop} {lv : aV} {x y : Int32} : AW d 300 1510 lv (.int y :: .int x :: st) h Q ↔ if x = y then AW d 300 1703 lv st h Q else AW d 300 1513 lv st h Q := w_if rfl rfl rfl rfl rfl c2_eq
set_option maxRecDepth 20000 in
theorem s300_1513 {d : Nat} {st : List Value} {h : aM} {Q : Option Value → aM → Prop} {lv : aV} : AW d 300 1513 lv st h Q ↔ AW d 300 1514 lv (.int 0 :: st) h Q := w_st rfl rfl rfl rfl rfl
set_option maxRecDepth 20000 in
theorem s300_1514 {d : Nat} {h : aM} {Q : Option Value → aM → Prop} {lv : aV} {x : Int32} : AW d 300 1514 lv [.int x] h Q ↔ narrow .boolean (.int x) = .int x ∧ Q (some (.int x)) h := w_rz rfl rfl
set_option maxRecDepth 20000 in
theorem s300_1515 {d : Nat} {st : List Value} {h : aM} {Q : Option Value → aM → Prop} {v0 v2 v3 v4 v5 v6 : Option Value} {x : Nat} : AW d 300 1515 [v0, some (.ref x), v2, v3, v4, v5, v6] st h Q ↔ AW d 300 1516 [v0, some (.ref x), v2, v3, v4, v5, v6] (.ref x :: st) h Q := w_st rfl rfl rfl rfl rfl
set_option maxRecDepth 20000 in
theorem s300_1516 {d : Nat} {st : List Value} {h : aM} {Q : Option Value → aM → Prop} {v1 v2 v3 v4 v5 v6 : Option Value} {x : Nat} : AW d 300 1516 [some (.ref x), v1, v2, v3, v4, v5, v6] st h Q ↔ AW d 300 1517 [some (.ref x), v1, v2, v3, v4, v5, v6] (.ref x :: st) h Q := w_st rfl rfl rfl rfl rfl
set_option maxRecDepth 20000 in
theorem s300_1517 {d : Nat} {st : List Value} {h : aM} {Q : Option Value → aM → Prop} {v0 v1 v2 v3 v5 v6 : Option Value} {x : Int32} : AW d 300 1517 [v0, v1, v2, v3, some (.int x), v5, v6] st h Q ↔ AW d 300 1519 [v0, v1, v2, v3, some (.int x), v5, v6] (.int x :: st) h Q := w_st rfl rfl rfl rfl rfl
set_option maxRecDepth 20000 in
theorem s300_1519 {d : Nat} {st : List Value} {h : aM} {Q : Option Value → aM → Prop} {lv : aV} : AW d 300 1519 lv st h Q ↔ AW d 300 1520 lv (.int 1 :: st) h Q := w_st rfl rfl rfl rfl rfl
set_option maxRecDepth 20000 in
theorem s300_1520 {d : Nat} {st : List Value} {h : aM} {Q : Option Value → aM → Prop} {lv : aV} {x y : Int32} : AW d 300 1520 lv (.int y :: .int x :: st) h Q ↔ AW d 300 1521 lv (.int (x + y) :: st) h Q := w_st rfl rfl rfl rfl rfl
set_option maxRecDepth 20000 in
theorem s300_1521 {d : Nat} {st : List Value} {h : aM} {Q : Option Value → aM → Prop} {lv : aV} {a : Nat} {i : Int32} : AW d 300 1521 lv (.int i :: .ref a :: st) h Q ↔ inA h a 100 i ∧ AW d 300 1522 lv (.int (gi h a i.toNatClampNeg) :: st) h Q := w_ite rfl rfl rfl rfl rfl aArr_iff
set_option maxRecDepth 20000 in
theorem s300_1522 {d : Nat} {st : List Value} {h : aM} {Q : Option Value → aM → Prop} {lv : aV} {a : Nat} {x0 : Int32} : AW (d + 1) 300 1522 lv (.int x0 :: .ref a :: st) h Q ↔ (sh h a = some (10, 19) ∧ cs st ≤ 8) ∧ AW d 152 0 [some (.ref a), some (.int x0)] [] h (fun v h => AW (d + 1) 300 1525 lv (v.toList ++ st) h Q) := w_c (k := 300) (pc := 1522) (pc' := 1525) (as := [.ref a, .int x0]) (st := st) (st' := (.int x0 :: .ref a :: st)) (lv' := [some (.ref a), some (.int x0)]) (h := h) (r3 := 10) rfl rfl rfl mi152 rfl rfl (Nat.le_of_ble_eq_true rfl) (rc_v rfl) rfl rfl
set_option maxRecDepth 20000 in
theorem s300_1525 {d : Nat} {st : List Value} {h : aM} {Q : Option Value → aM → Prop} {v0 v1 v3 v4 v5 v6 : Option Value} {x : Nat} : AW d 300 1525 [v0, v1, some (.ref x), v3, v4, v5, v6] st h Q ↔ AW d 300 1526 [v0, v1, some (.ref x), v3, v4, v5, v6] (.ref x :: st) h Q := w_st rfl rfl rfl rfl rfl
set_option maxRecDepth 20000 in
theorem s300_1526 {d : Nat} {st : List Value} {h : aM} {Q : Option Value → aM → Prop} {v1 v2 v3 v4 v5 v6 : Option Value} {x : Nat} : AW d 300 1526 [some (.ref x), v1, v2, v3, v4, v5, v6] st h Q ↔ AW d 300 1527 [some (.ref x), v1, v2, v3, v4, v5, v6] (.ref x :: st) h Q := w_st rfl rfl rfl rfl rfl
set_option maxRecDepth 20000 in
theorem s300_1527 {d : Nat} {st : List Value} {h : aM} {Q : Option Value → aM → Prop} {v0 v1 v2 v3 v5 v6 : Option Value} {x : Int32} : AW d 300 1527 [v0, v1, v2, v3, some (.int x), v5, v6] st h Q ↔ AW d 300 1529 [v0, v1, v2, v3, some (.int x), v5, v6] (.int x :: st) h Q := w_st rfl rfl rfl rfl rfl
set_option maxRecDepth 20000 in
theorem s300_1529 {d : Nat} {st : List Value} {h : aM} {Q : Option Value → aM → Prop} {lv : aV} : AW d 300 1529 lv st h Q ↔ AW d 300 1530 lv (.int 1 :: st) h Q := w_st rfl rfl rfl rfl rfl
set_option maxRecDepth 20000 in
theorem s300_1530 {d : Nat} {st : List Value} {h : aM} {Q : Option Value → aM → Prop} {lv : aV} {x y : Int32} : AW d 300 1530 lv (.int y :: .int x :: st) h Q ↔ AW d 300 1531 lv (.int (x + y) :: st) h Q := w_st rfl rfl rfl rfl rfl
set_option maxRecDepth 20000 in
theorem s300_1531 {d : Nat} {st : List Value} {h : aM} {Q : Option Value → aM → Prop} {lv : aV} {a : Nat} {i : Int32} : AW d 300 1531 lv (.int i :: .ref a :: st) h Q ↔ inA h a 100 i ∧ AW d 300 1532 lv (.int (gi h a i.toNatClampNeg) :: st) h Q := w_ite rfl rfl rfl rfl rfl aArr_iff
set_option maxRecDepth 20000 in
theorem s300_1532 {d : Nat} {st : List Value} {h : aM} {Q : Option Value → aM → Prop} {lv : aV} {a : Nat} {x0 : Int32} : AW (d + 1) 300 1532 lv (.int x0 :: .ref a :: st) h Q ↔ (sh h a = some (11, 50) ∧ cs st ≤ 8) ∧ AW d 267 0 [some (.ref a), some (.int x0)] [] h (fun v h => AW (d + 1) 300 1535 lv (v.toList ++ st) h Q) := w_c (k := 300) (pc := 1532) (pc' := 1535) (as := [.ref a, .int x0]) (st := st) (st' := (.int x0 :: .ref a :: st)) (lv' := [some (.ref a), some (.int x0)]) (h := h) (r3 := 11) rfl rfl rfl mi267 rfl rfl (Nat.le_of_ble_eq_true rfl) (rc_v rfl) rfl rfl
set_option maxRecDepth 20000 in
theorem s300_1535 {d : Nat} {st : List Value} {h : aM} {Q : Option Value → aM → Prop} {lv : aV} {x y : Int32} : AW d 300 1535 lv (.int y :: .int x :: st) h Q ↔ if x = y then AW d 300 1703 lv st h Q else AW d 300 1538 lv st h Q := w_if rfl rfl rfl rfl rfl c2_eq
set_option maxRecDepth 20000 in
theorem s300_1538 {d : Nat} {st : List Value} {h : aM} {Q : Option Value → aM → Prop} {lv : aV} : AW d 300 1538 lv st h Q ↔ AW d 300 1539 lv (.int 0 :: st) h Q := w_st rfl rfl rfl rfl rfl
set_option maxRecDepth 20000 in
theorem s300_1539 {d : Nat} {h : aM} {Q : Option Value → aM → Prop} {lv : aV} {x : Int32} : AW d 300 1539 lv [.int x] h Q ↔ narrow .boolean (.int x) = .int x ∧ Q (some (.int x)) h := w_rz rfl rfl
set_option maxRecDepth 20000 in
theorem s300_1540 {d : Nat} {st : List Value} {h : aM} {Q : Option Value → aM → Prop} {v0 v2 v3 v4 v5 v6 : Option Value} {x : Nat} : AW d 300 1540 [v0, some (.ref x), v2, v3, v4, v5, v6] st h Q ↔ AW d 300 1541 [v0, some (.ref x), v2, v3, v4, v5, v6] (.ref x :: st) h Q := w_st rfl rfl rfl rfl rfl
set_option maxRecDepth 20000 in
theorem s300_1541 {d : Nat} {st : List Value} {h : aM} {Q : Option Value → aM → Prop} {v1 v2 v3 v4 v5 v6 : Option Value} {x : Nat} : AW d 300 1541 [some (.ref x), v1, v2, v3, v4, v5, v6] st h Q ↔ AW d 300 1542 [some (.ref x), v1, v2, v3, v4, v5, v6] (.ref x :: st) h Q := w_st rfl rfl rfl rfl rfl
set_option maxRecDepth 20000 in
theorem s300_1542 {d : Nat} {st : List Value} {h : aM} {Q : Option Value → aM → Prop} {v0 v1 v2 v3 v5 v6 : Option Value} {x : Int32} : AW d 300 1542 [v0, v1, v2, v3, some (.int x), v5, v6] st h Q ↔ AW d 300 1544 [v0, v1, v2, v3, some (.int x), v5, v6] (.int x :: st) h Q := w_st rfl rfl rfl rfl rfl
set_option maxRecDepth 20000 in
theorem s300_1544 {d : Nat} {st : List Value} {h : aM} {Q : Option Value → aM → Prop} {lv : aV} : AW d 300 1544 lv st h Q ↔ AW d 300 1545 lv (.int 1 :: st) h Q := w_st rfl rfl rfl rfl rfl
set_option maxRecDepth 20000 in
theorem s300_1545 {d : Nat} {st : List Value} {h : aM} {Q : Option Value → aM → Prop} {lv : aV} {x y : Int32} : AW d 300 1545 lv (.int y :: .int x :: st) h Q ↔ AW d 300 1546 lv (.int (x + y) :: st) h Q := w_st rfl rfl rfl rfl rfl
set_option maxRecDepth 20000 in
theorem s300_1546 {d : Nat} {st : List Value} {h : aM} {Q : Option Value → aM → Prop} {lv : aV} {a : Nat} {i : Int32} : AW d 300 1546 lv (.int i :: .ref a :: st) h Q ↔ inA h a 100 i ∧ AW d 300 1547 lv (.int (gi h a i.toNatClampNeg) :: st) h Q := w_ite rfl rfl rfl rfl rfl aArr_iff
set_option maxRecDepth 20000 in
theorem s300_1547 {d : Nat} {st : List Value} {h : aM} {Q : Option Value → aM → Prop} {lv : aV} {a : Nat} {x0 : Int32} : AW (d + 1) 300 1547 lv (.int x0 :: .ref a :: st) h Q ↔ (sh h a = some (10, 19) ∧ cs st ≤ 8) ∧ AW d 153 0 [some (.ref a), some (.int x0), none, none] [] h (fun v h => AW (d + 1) 300 1550 lv (v.toList ++ st) h Q) := w_c (k := 300) (pc := 1547) (pc' := 1550) (as := [.ref a, .int x0]) (st := st) (st' := (.int x0 :: .ref a :: st)) (lv' := [some (.ref a), some (.int x0), none, none]) (h := h) (r3 := 10) rfl rfl rfl mi153 rfl rfl (Nat.le_of_ble_eq_true rfl) (rc_v rfl) rfl rfl
set_option maxRecDepth 20000 in
theorem s300_1550 {d : Nat} {st : List Value} {h : aM} {Q : Option Value → aM → Prop} {v0 v1 v3 v4 v5 v6 : Option Value} {x : Nat} : AW d 300 1550 [v0, v1, some (.ref x), v3, v4, v5, v6] st h Q ↔ AW d 300 1551 [v0, v1, some (.ref x), v3, v4, v5, v6] (.ref x :: st) h Q := w_st rfl rfl rfl rfl rfl
set_option maxRecDepth 20000 in
theorem s300_1551 {d : Nat} {st : List Value} {h : aM} {Q : Option Value → aM → Prop} {v1 v2 v3 v4 v5 v6 : Option Value} {x : Nat} : AW d 300 1551 [some (.ref x), v1, v2, v3, v4, v5, v6] st h Q ↔ AW d 300 1552 [some (.ref x), v1, v2, v3, v4, v5, v6] (.ref x :: st) h Q := w_st rfl rfl rfl rfl rfl
set_option maxRecDepth 20000 in
theorem s300_1552 {d : Nat} {st : List Value} {h : aM} {Q : Option Value → aM → Prop} {v0 v1 v2 v3 v5 v6 : Option Value} {x : Int32} : AW d 300 1552 [v0, v1, v2, v3, some (.int x), v5, v6] st h Q ↔ AW d 300 1554 [v0, v1, v2, v3, some (.int x), v5, v6] (.int x :: st) h Q := w_st rfl rfl rfl rfl rfl
set_option maxRecDepth 20000 in
theorem s300_1554 {d : Nat} {st : List Value} {h : aM} {Q : Option Value → aM → Prop} {lv : aV} : AW d 300 1554 lv st h Q ↔ AW d 300 1555 lv (.int 1 :: st) h Q := w_st rfl rfl rfl rfl rfl
set_option maxRecDepth 20000 in
theorem s300_1555 {d : Nat} {st : List Value} {h : aM} {Q : Option Value → aM → Prop} {lv : aV} {x y : Int32} : AW d 300 1555 lv (.int y :: .int x :: st) h Q ↔ AW d 300 1556 lv (.int (x + y) :: st) h Q := w_st rfl rfl rfl rfl rfl
set_option maxRecDepth 20000 in
theorem s300_1556 {d : Nat} {st : List Value} {h : aM} {Q : Option Value → aM → Prop} {lv : aV} {a : Nat} {i : Int32} : AW d 300 1556 lv (.int i :: .ref a :: st) h Q ↔ inA h a 100 i ∧ AW d 300 1557 lv (.int (gi h a i.toNatClampNeg) :: st) h Q := w_ite rfl rfl rfl rfl rfl aArr_iff
set_option maxRecDepth 20000 in
theorem s300_1557 {d : Nat} {st : List Value} {h : aM} {Q : Option Value → aM → Prop} {lv : aV} {a : Nat} {x0 : Int32} : AW (d + 1) 300 1557 lv (.int x0 :: .ref a :: st) h Q ↔ (sh h a = some (11, 50) ∧ cs st ≤ 8) ∧ AW d 268 0 [some (.ref a), some (.int x0), none, none] [] h (fun v h => AW (d + 1) 300 1560 lv (v.toList ++ st) h Q) := w_c (k := 300) (pc := 1557) (pc' := 1560) (as := [.ref a, .int x0]) (st := st) (st' := (.int x0 :: .ref a :: st)) (lv' := [some (.ref a), some (.int x0), none, none]) (h := h) (r3 := 11) rfl rfl rfl mi268 rfl rfl (Nat.le_of_ble_eq_true rfl) (rc_v rfl) rfl rfl
set_option maxRecDepth 20000 in
theorem s300_1560 {d : Nat} {st : List Value} {h : aM} {Q : Option Value → aM → Prop} {lv : aV} {x y : Int32} : AW d 300 1560 lv (.int y :: .int x :: st) h Q ↔ if x = y then AW d 300 1703 lv st h Q else AW d 300 1563 lv st h Q := w_if rfl rfl rfl rfl rfl c2_eq
set_option maxRecDepth 20000 in
theorem s300_1563 {d : Nat} {st : List Value} {h : aM} {Q : Option Value → aM → Prop} {lv : aV} : AW d 300 1563 lv st h Q ↔ AW d 300 1564 lv (.int 0 :: st) h Q := w_st rfl rfl rfl rfl rfl
set_option maxRecDepth 20000 in
theorem s300_1564 {d : Nat} {h : aM} {Q : Option Value → aM → Prop} {lv : aV} {x : Int32} : AW d 300 1564 lv [.int x] h Q ↔ narrow .boolean (.int x) = .int x ∧ Q (some (.int x)) h := w_rz rfl rfl
set_option maxRecDepth 20000 in
theorem s300_1565 {d : Nat} {st : List Value} {h : aM} {Q : Option Value → aM → Prop} {v0 v2 v3 v4 v5 v6 : Option Value} {x : Nat} : AW d 300 1565 [v0, some (.ref x), v2, v3, v4, v5, v6] st h Q ↔ AW d 300 1566 [v0, some (.ref x), v2, v3, v4, v5, v6] (.ref x :: st) h Q := w_st rfl rfl rfl rfl rfl
set_option maxRecDepth 20000 in
theorem s300_1566 {d : Nat} {st : List Value} {h : aM} {Q : Option Value → aM → Prop} {v1 v2 v3 v4 v5 v6 : Option Value} {x : Nat} : AW d 300 1566 [some (.ref x), v1, v2, v3, v4, v5, v6] st h Q ↔ AW d 300 1567 [some (.ref x), v1, v2, v3, v4, v5, v6] (.ref x :: st) h Q := w_st rfl rfl rfl rfl rfl
set_option maxRecDepth 20000 in
theorem s300_1567 {d : Nat} {st : List Value} {h : aM} {Q : Option Value → aM → Prop} {v0 v1 v2 v3 v5 v6 : Option Value} {x : Int32} : AW d 300 1567 [v0, v1, v2, v3, some (.int x), v5, v6] st h Q ↔ AW d 300 1569 [v0, v1, v2, v3, some (.int x), v5, v6] (.int x :: st) h Q := w_st rfl rfl rfl rfl rfl
set_option maxRecDepth 20000 in
theorem s300_1569 {d : Nat} {st : List Value} {h : aM} {Q : Option Value → aM → Prop} {lv : aV} : AW d 300 1569 lv st h Q ↔ AW d 300 1570 lv (.int 1 :: st) h Q := w_st rfl rfl rfl rfl rfl
set_option maxRecDepth 20000 in
theorem s300_1570 {d : Nat} {st : List Value} {h : aM} {Q : Option Value → aM → Prop} {lv : aV} {x y : Int32} : AW d 300 1570 lv (.int y :: .int x :: st) h Q ↔ AW d 300 1571 lv (.int (x + y) :: st) h Q := w_st rfl rfl rfl rfl rfl
set_option maxRecDepth 20000 in
theorem s300_1571 {d : Nat} {st : List Value} {h : aM} {Q : Option Value → aM → Prop} {lv : aV} {a : Nat} {i : Int32} : AW d 300 1571 lv (.int i :: .ref a :: st) h Q ↔ inA h a 100 i ∧ AW d 300 1572 lv (.int (gi h a i.toNatClampNeg) :: st) h Q := w_ite rfl rfl rfl rfl rfl aArr_iff
set_option maxRecDepth 20000 in
theorem s300_1572 {d : Nat} {st : List Value} {h : aM} {Q : Option Value → aM → Prop} {lv : aV} {a : Nat} {x0 : Int32} : AW (d + 1) 300 1572 lv (.int x0 :: .ref a :: st) h Q ↔ (sh h a = some (10, 19) ∧ cs st ≤ 8) ∧ AW d 154 0 [some (.ref a), some (.int x0), none, none] [] h (fun v h => AW (d + 1) 300 1575 lv (v.toList ++ st) h Q) := w_c (k := 300) (pc := 1572) (pc' := 1575) (as := [.ref a, .int x0]) (st := st) (st' := (.int x0 :: .ref a :: st)) (lv' := [some (.ref a), some (.int x0), none, none]) (h := h) (r3 := 10) rfl rfl rfl mi154 rfl rfl (Nat.le_of_ble_eq_true rfl) (rc_v rfl) rfl rfl
set_option maxRecDepth 20000 in
theorem s300_1575 {d : Nat} {st : List Value} {h : aM} {Q : Option Value → aM → Prop} {v0 v1 v3 v4 v5 v6 : Option Value} {x : Nat} : AW d 300 1575 [v0, v1, some (.ref x), v3, v4, v5, v6] st h Q ↔ AW d 300 1576 [v0, v1, some (.ref x), v3, v4, v5, v6] (.ref x :: st) h Q := w_st rfl rfl rfl rfl rfl
set_option maxRecDepth 20000 in
theorem s300_1576 {d : Nat} {st : List Value} {h : aM} {Q : Option Value → aM → Prop} {v1 v2 v3 v4 v5 v6 : Option Value} {x : Nat} : AW d 300 1576 [some (.ref x), v1, v2, v3, v4, v5, v6] st h Q ↔ AW d 300 1577 [some (.ref x), v1, v2, v3, v4, v5, v6] (.ref x :: st) h Q := w_st rfl rfl rfl rfl rfl
set_option maxRecDepth 20000 in
theorem s300_1577 {d : Nat} {st : List Value} {h : aM} {Q : Option Value → aM → Prop} {v0 v1 v2 v3 v5 v6 : Option Value} {x : Int32} : AW d 300 1577 [v0, v1, v2, v3, some (.int x), v5, v6] st h Q ↔ AW d 300 1579 [v0, v1, v2, v3, some (.int x), v5, v6] (.int x :: st) h Q := w_st rfl rfl rfl rfl rfl
set_option maxRecDepth 20000 in
theorem s300_1579 {d : Nat} {st : List Value} {h : aM} {Q : Option Value → aM → Prop} {lv : aV} : AW d 300 1579 lv st h Q ↔ AW d 300 1580 lv (.int 1 :: st) h Q := w_st rfl rfl rfl rfl rfl
set_option maxRecDepth 20000 in
theorem s300_1580 {d : Nat} {st : List Value} {h : aM} {Q : Option Value → aM → Prop} {lv : aV} {x y : Int32} : AW d 300 1580 lv (.int y :: .int x :: st) h Q ↔ AW d 300 1581 lv (.int (x + y) :: st) h Q := w_st rfl rfl rfl rfl rfl
set_option maxRecDepth 20000 in
theorem s300_1581 {d : Nat} {st : List Value} {h : aM} {Q : Option Value → aM → Prop} {lv : aV} {a : Nat} {i : Int32} : AW d 300 1581 lv (.int i :: .ref a :: st) h Q ↔ inA h a 100 i ∧ AW d 300 1582 lv (.int (gi h a i.toNatClampNeg) :: st) h Q := w_ite rfl rfl rfl rfl rfl aArr_iff
set_option maxRecDepth 20000 in
theorem s300_1582 {d : Nat} {st : List Value} {h : aM} {Q : Option Value → aM → Prop} {lv : aV} {a : Nat} {x0 : Int32} : AW (d + 1) 300 1582 lv (.int x0 :: .ref a :: st) h Q ↔ (sh h a = some (11, 50) ∧ cs st ≤ 8) ∧ AW d 269 0 [some (.ref a), some (.int x0), none, none] [] h (fun v h => AW (d + 1) 300 1585 lv (v.toList ++ st) h Q) := w_c (k := 300) (pc := 1582) (pc' := 1585) (as := [.ref a, .int x0]) (st := st) (st' := (.int x0 :: .ref a :: st)) (lv' := [some (.ref a), some (.int x0), none, none]) (h := h) (r3 := 11) rfl rfl rfl mi269 rfl rfl (Nat.le_of_ble_eq_true rfl) (rc_v rfl) rfl rfl
set_option maxRecDepth 20000 in
theorem s300_1585 {d : Nat} {st : List Value} {h : aM} {Q : Option Value → aM → Prop} {lv : aV} {x y : Int32} : AW d 300 1585 lv (.int y :: .int x :: st) h Q ↔ if x = y then AW d 300 1703 lv st h Q else AW d 300 1588 lv st h Q := w_if rfl rfl rfl rfl rfl c2_eq
set_option maxRecDepth 20000 in
theorem s300_1588 {d : Nat} {st : List Value} {h : aM} {Q : Option Value → aM → Prop} {lv : aV} : AW d 300 1588 lv st h Q ↔ AW d 300 1589 lv (.int 0 :: st) h Q := w_st rfl rfl rfl rfl rfl
set_option maxRecDepth 20000 in
theorem s300_1589 {d : Nat} {h : aM} {Q : Option Value → aM → Prop} {lv : aV} {x : Int32} : AW d 300 1589 lv [.int x] h Q ↔ narrow .boolean (.int x) = .int x ∧ Q (some (.int x)) h := w_rz rfl rfl
set_option maxRecDepth 20000 in
theorem s300_1590 {d : Nat} {st : List Value} {h : aM} {Q : Option Value → aM → Prop} {v0 v2 v3 v4 v5 v6 : Option Value} {x : Nat} : AW d 300 1590 [v0, some (.ref x), v2, v3, v4, v5, v6] st h Q ↔ AW d 300 1591 [v0, some (.ref x), v2, v3, v4, v5, v6] (.ref x :: st) h Q := w_st rfl rfl rfl rfl rfl
set_option maxRecDepth 20000 in
theorem s300_1591 {d : Nat} {st : List Value} {h : aM} {Q : Option Value → aM → Prop} {v1 v2 v3 v4 v5 v6 : Option Value} {x : Nat} : AW d 300 1591 [some (.ref x), v1, v2, v3, v4, v5, v6] st h Q ↔ AW d 300 1592 [some (.ref x), v1, v2, v3, v4, v5, v6] (.ref x :: st) h Q := w_st rfl rfl rfl rfl rfl
set_option maxRecDepth 20000 in
theorem s300_1592 {d : Nat} {st : List Value} {h : aM} {Q : Option Value → aM → Prop} {v0 v1 v2 v3 v5 v6 : Option Value} {x : Int32} : AW d 300 1592 [v0, v1, v2, v3, some (.int x), v5, v6] st h Q ↔ AW d 300 1594 [v0, v1, v2, v3, some (.int x), v5, v6] (.int x :: st) h Q := w_st rfl rfl rfl rfl rfl
set_option maxRecDepth 20000 in
theorem s300_1594 {d : Nat} {st : List Value} {h : aM} {Q : Option Value → aM → Prop} {lv : aV} : AW d 300 1594 lv st h Q ↔ AW d 300 1595 lv (.int 1 :: st) h Q := w_st rfl rfl rfl rfl rfl
set_option maxRecDepth 20000 in
theorem s300_1595 {d : Nat} {st : List Value} {h : aM} {Q : Option Value → aM → Prop} {lv : aV} {x y : Int32} : AW d 300 1595 lv (.int y :: .int x :: st) h Q ↔ AW d 300 1596 lv (.int (x + y) :: st) h Q := w_st rfl rfl rfl rfl rfl
set_option maxRecDepth 20000 in
theorem s300_1596 {d : Nat} {st : List Value} {h : aM} {Q : Option Value → aM → Prop} {lv : aV} {a : Nat} {i : Int32} : AW d 300 1596 lv (.int i :: .ref a :: st) h Q ↔ inA h a 100 i ∧ AW d 300 1597 lv (.int (gi h a i.toNatClampNeg) :: st) h Q := w_ite rfl rfl rfl rfl rfl aArr_iff
set_option maxRecDepth 20000 in
theorem s300_1597 {d : Nat} {st : List Value} {h : aM} {Q : Option Value → aM → Prop} {lv : aV} {a : Nat} {x0 : Int32} : AW (d + 1) 300 1597 lv (.int x0 :: .ref a :: st) h Q ↔ (sh h a = some (10, 19) ∧ cs st ≤ 8) ∧ AW d 155 0 [some (.ref a), some (.int x0)] [] h (fun v h => AW (d + 1) 300 1600 lv (v.toList ++ st) h Q) := w_c (k := 300) (pc := 1597) (pc' := 1600) (as := [.ref a, .int x0]) (st := st) (st' := (.int x0 :: .ref a :: st)) (lv' := [some (.ref a), some (.int x0)]) (h := h) (r3 := 10) rfl rfl rfl mi155 rfl rfl (Nat.le_of_ble_eq_true rfl) (rc_v rfl) rfl rfl
set_option maxRecDepth 20000 in
theorem s300_1600 {d : Nat} {st : List Value} {h : aM} {Q : Option Value → aM → Prop} {v0 v1 v3 v4 v5 v6 : Option Value} {x : Nat} : AW d 300 1600 [v0, v1, some (.ref x), v3, v4, v5, v6] st h Q ↔ AW d 300 1601 [v0, v1, some (.ref x), v3, v4, v5, v6] (.ref x :: st) h Q := w_st rfl rfl rfl rfl rfl
set_option maxRecDepth 20000 in
theorem s300_1601 {d : Nat} {st : List Value} {h : aM} {Q : Option Value → aM → Prop} {v1 v2 v3 v4 v5 v6 : Option Value} {x : Nat} : AW d 300 1601 [some (.ref x), v1, v2, v3, v4, v5, v6] st h Q ↔ AW d 300 1602 [some (.ref x), v1, v2, v3, v4, v5, v6] (.ref x :: st) h Q := w_st rfl rfl rfl rfl rfl
set_option maxRecDepth 20000 in
theorem s300_1602 {d : Nat} {st : List Value} {h : aM} {Q : Option Value → aM → Prop} {v0 v1 v2 v3 v5 v6 : Option Value} {x : Int32} : AW d 300 1602 [v0, v1, v2, v3, some (.int x), v5, v6] st h Q ↔ AW d 300 1604 [v0, v1, v2, v3, some (.int x), v5, v6] (.int x :: st) h Q := w_st rfl rfl rfl rfl rfl
set_option maxRecDepth 20000 in
theorem s300_1604 {d : Nat} {st : List Value} {h : aM} {Q : Option Value → aM → Prop} {lv : aV} : AW d 300 1604 lv st h Q ↔ AW d 300 1605 lv (.int 1 :: st) h Q := w_st rfl rfl rfl rfl rfl
set_option maxRecDepth 20000 in
theorem s300_1605 {d : Nat} {st : List Value} {h : aM} {Q : Option Value → aM → Prop} {lv : aV} {x y : Int32} : AW d 300 1605 lv (.int y :: .int x :: st) h Q ↔ AW d 300 1606 lv (.int (x + y) :: st) h Q := w_st rfl rfl rfl rfl rfl
set_option maxRecDepth 20000 in
theorem s300_1606 {d : Nat} {st : List Value} {h : aM} {Q : Option Value → aM → Prop} {lv : aV} {a : Nat} {i : Int32} : AW d 300 1606 lv (.int i :: .ref a :: st) h Q ↔ inA h a 100 i ∧ AW d 300 1607 lv (.int (gi h a i.toNatClampNeg) :: st) h Q := w_ite rfl rfl rfl rfl rfl aArr_iff
set_option maxRecDepth 20000 in
theorem s300_1607 {d : Nat} {st : List Value} {h : aM} {Q : Option Value → aM → Prop} {lv : aV} {a : Nat} {x0 : Int32} : AW (d + 1) 300 1607 lv (.int x0 :: .ref a :: st) h Q ↔ (sh h a = some (11, 50) ∧ cs st ≤ 8) ∧ AW d 272 0 [some (.ref a), some (.int x0), none, none] [] h (fun v h => AW (d + 1) 300 1610 lv (v.toList ++ st) h Q) := w_c (k := 300) (pc := 1607) (pc' := 1610) (as := [.ref a, .int x0]) (st := st) (st' := (.int x0 :: .ref a :: st)) (lv' := [some (.ref a), some (.int x0), none, none]) (h := h) (r3 := 11) rfl rfl rfl mi272 rfl rfl (Nat.le_of_ble_eq_true rfl) (rc_v rfl) rfl rfl
set_option maxRecDepth 20000 in
theorem s300_1610 {d : Nat} {st : List Value} {h : aM} {Q : Option Value → aM → Prop} {lv : aV} {x y : Int32} : AW d 300 1610 lv (.int y :: .int x :: st) h Q ↔ if x = y then AW d 300 1703 lv st h Q else AW d 300 1613 lv st h Q := w_if rfl rfl rfl rfl rfl c2_eq
set_option maxRecDepth 20000 in
theorem s300_1613 {d : Nat} {st : List Value} {h : aM} {Q : Option Value → aM → Prop} {lv : aV} : AW d 300 1613 lv st h Q ↔ AW d 300 1614 lv (.int 0 :: st) h Q := w_st rfl rfl rfl rfl rfl
set_option maxRecDepth 20000 in
theorem s300_1614 {d : Nat} {h : aM} {Q : Option Value → aM → Prop} {lv : aV} {x : Int32} : AW d 300 1614 lv [.int x] h Q ↔ narrow .boolean (.int x) = .int x ∧ Q (some (.int x)) h := w_rz rfl rfl
set_option maxRecDepth 20000 in
theorem s300_1615 {d : Nat} {st : List Value} {h : aM} {Q : Option Value → aM → Prop} {v0 v2 v3 v4 v5 v6 : Option Value} {x : Nat} : AW d 300 1615 [v0, some (.ref x), v2, v3, v4, v5, v6] st h Q ↔ AW d 300 1616 [v0, some (.ref x), v2, v3, v4, v5, v6] (.ref x :: st) h Q := w_st rfl rfl rfl rfl rfl
set_option maxRecDepth 20000 in
theorem s300_1616 {d : Nat} {st : List Value} {h : aM} {Q : Option Value → aM → Prop} {v1 v2 v3 v4 v5 v6 : Option Value} {x : Nat} : AW d 300 1616 [some (.ref x), v1, v2, v3, v4, v5, v6] st h Q ↔ AW d 300 1617 [some (.ref x), v1, v2, v3, v4, v5, v6] (.ref x :: st) h Q := w_st rfl rfl rfl rfl rfl
set_option maxRecDepth 20000 in
theorem s300_1617 {d : Nat} {st : List Value} {h : aM} {Q : Option Value → aM → Prop} {v0 v1 v2 v3 v5 v6 : Option Value} {x : Int32} : AW d 300 1617 [v0, v1, v2, v3, some (.int x), v5, v6] st h Q ↔ AW d 300 1619 [v0, v1, v2, v3, some (.int x), v5, v6] (.int x :: st) h Q := w_st rfl rfl rfl rfl rfl
set_option maxRecDepth 20000 in
theorem s300_1619 {d : Nat} {st : List Value} {h : aM} {Q : Option Value → aM → Prop} {lv : aV} : AW d 300 1619 lv st h Q ↔ AW d 300 1620 lv (.int 1 :: st) h Q := w_st rfl rfl rfl rfl rfl
set_option maxRecDepth 20000 in
theorem s300_1620 {d : Nat} {st : List Value} {h : aM} {Q : Option Value → aM → Prop} {lv : aV} {x y : Int32} : AW d 300 1620 lv (.int y :: .int x :: st) h Q ↔ AW d 300 1621 lv (.int (x + y) :: st) h Q := w_st rfl rfl rfl rfl rfl
set_option maxRecDepth 20000 in
theorem s300_1621 {d : Nat} {st : List Value} {h : aM} {Q : Option Value → aM → Prop} {lv : aV} {a : Nat} {i : Int32} : AW d 300 1621 lv (.int i :: .ref a :: st) h Q ↔ inA h a 100 i ∧ AW d 300 1622 lv (.int (gi h a i.toNatClampNeg) :: st) h Q := w_ite rfl rfl rfl rfl rfl aArr_iff
set_option maxRecDepth 20000 in
theorem s300_1622 {d : Nat} {st : List Value} {h : aM} {Q : Option Value → aM → Prop} {v1 v2 v3 v4 v5 v6 : Option Value} {x : Nat} : AW d 300 1622 [some (.ref x), v1, v2, v3, v4, v5, v6] st h Q ↔ AW d 300 1623 [some (.ref x), v1, v2, v3, v4, v5, v6] (.ref x :: st) h Q := w_st rfl rfl rfl rfl rfl
set_option maxRecDepth 20000 in
theorem s300_1623 {d : Nat} {st : List Value} {h : aM} {Q : Option Value → aM → Prop} {v0 v1 v2 v3 v5 v6 : Option Value} {x : Int32} : AW d 300 1623 [v0, v1, v2, v3, some (.int x), v5, v6] st h Q ↔ AW d 300 1625 [v0, v1, v2, v3, some (.int x), v5, v6] (.int x :: st) h Q := w_st rfl rfl rfl rfl rfl
set_option maxRecDepth 20000 in
theorem s300_1625 {d : Nat} {st : List Value} {h : aM} {Q : Option Value → aM → Prop} {lv : aV} : AW d 300 1625 lv st h Q ↔ AW d 300 1626 lv (.int 2 :: st) h Q := w_st rfl rfl rfl rfl rfl
set_option maxRecDepth 20000 in
theorem s300_1626 {d : Nat} {st : List Value} {h : aM} {Q : Option Value → aM → Prop} {lv : aV} {x y : Int32} : AW d 300 1626 lv (.int y :: .int x :: st) h Q ↔ AW d 300 1627 lv (.int (x + y) :: st) h Q := w_st rfl rfl rfl rfl rfl
set_option maxRecDepth 20000 in
theorem s300_1627 {d : Nat} {st : List Value} {h : aM} {Q : Option Value → aM → Prop} {lv : aV} {a : Nat} {i : Int32} : AW d 300 1627 lv (.int i :: .ref a :: st) h Q ↔ inA h a 100 i ∧ AW d 300 1628 lv (.int (gi h a i.toNatClampNeg) :: st) h Q := w_ite rfl rfl rfl rfl rfl aArr_iff
set_option maxRecDepth 20000 in
theorem s300_1628 {d : Nat} {st : List Value} {h : aM} {Q : Option Value → aM → Prop} {lv : aV} {a : Nat} {x0 : Int32} {x1 : Int32} : AW (d + 1) 300 1628 lv (.int x1 :: .int x0 :: .ref a :: st) h Q ↔ (sh h a = some (10, 19) ∧ cs st ≤ 8) ∧ AW d 158 0 [some (.ref a), some (.int x0), some (.int x1), none, none, none] [] h (fun v h => AW (d + 1) 300 1631 lv (v.toList ++ st) h Q) := w_c (k := 300) (pc := 1628) (pc' := 1631) (as := [.ref a, .int x0, .int x1]) (st := st) (st' := (.int x1 :: .int x0 :: .ref a :: st)) (lv' := [some (.ref a), some (.int x0), some (.int x1), none, none, none]) (h := h) (r3 := 10) rfl rfl rfl mi158 rfl rfl (Nat.le_of_ble_eq_true rfl) (rc_v rfl) rfl rfl
set_option maxRecDepth 20000 in
theorem s300_1631 {d : Nat} {st : List Value} {h : aM} {Q : Option Value → aM → Prop} {v0 v1 v3 v4 v5 v6 : Option Value} {x : Nat} : AW d 300 1631 [v0, v1, some (.ref x), v3, v4, v5, v6] st h Q ↔ AW d 300 1632 [v0, v1, some (.ref x), v3, v4, v5, v6] (.ref x :: st) h Q := w_st rfl rfl rfl rfl rfl
set_option maxRecDepth 20000 in
theorem s300_1632 {d : Nat} {st : List Value} {h : aM} {Q : Option Value → aM → Prop} {v1 v2 v3 v4 v5 v6 : Option Value} {x : Nat} : AW d 300 1632 [some (.ref x), v1, v2, v3, v4, v5, v6] st h Q ↔ AW d 300 1633 [some (.ref x), v1, v2, v3, v4, v5, v6] (.ref x :: st) h Q := w_st rfl rfl rfl rfl rfl
set_option maxRecDepth 20000 in
theorem s300_1633 {d : Nat} {st : List Value} {h : aM} {Q : Option Value → aM → Prop} {v0 v1 v2 v3 v5 v6 : Option Value} {x : Int32} : AW d 300 1633 [v0, v1, v2, v3, some (.int x), v5, v6] st h Q ↔ AW d 300 1635 [v0, v1, v2, v3, some (.int x), v5, v6] (.int x :: st) h Q := w_st rfl rfl rfl rfl rfl
set_option maxRecDepth 20000 in
theorem s300_1635 {d : Nat} {st : List Value} {h : aM} {Q : Option Value → aM → Prop} {lv : aV} : AW d 300 1635 lv st h Q ↔ AW d 300 1636 lv (.int 1 :: st) h Q := w_st rfl rfl rfl rfl rfl
set_option maxRecDepth 20000 in
theorem s300_1636 {d : Nat} {st : List Value} {h : aM} {Q : Option Value → aM → Prop} {lv : aV} {x y : Int32} : AW d 300 1636 lv (.int y :: .int x :: st) h Q ↔ AW d 300 1637 lv (.int (x + y) :: st) h Q := w_st rfl rfl rfl rfl rfl
set_option maxRecDepth 20000 in
theorem s300_1637 {d : Nat} {st : List Value} {h : aM} {Q : Option Value → aM → Prop} {lv : aV} {a : Nat} {i : Int32} : AW d 300 1637 lv (.int i :: .ref a :: st) h Q ↔ inA h a 100 i ∧ AW d 300 1638 lv (.int (gi h a i.toNatClampNeg) :: st) h Q := w_ite rfl rfl rfl rfl rfl aArr_iff
set_option maxRecDepth 20000 in
theorem s300_1638 {d : Nat} {st : List Value} {h : aM} {Q : Option Value → aM → Prop} {v1 v2 v3 v4 v5 v6 : Option Value} {x : Nat} : AW d 300 1638 [some (.ref x), v1, v2, v3, v4, v5, v6] st h Q ↔ AW d 300 1639 [some (.ref x), v1, v2, v3, v4, v5, v6] (.ref x :: st) h Q := w_st rfl rfl rfl rfl rfl
set_option maxRecDepth 20000 in
theorem s300_1639 {d : Nat} {st : List Value} {h : aM} {Q : Option Value → aM → Prop} {v0 v1 v2 v3 v5 v6 : Option Value} {x : Int32} : AW d 300 1639 [v0, v1, v2, v3, some (.int x), v5, v6] st h Q ↔ AW d 300 1641 [v0, v1, v2, v3, some (.int x), v5, v6] (.int x :: st) h Q := w_st rfl rfl rfl rfl rfl
set_option maxRecDepth 20000 in
theorem s300_1641 {d : Nat} {st : List Value} {h : aM} {Q : Option Value → aM → Prop} {lv : aV} : AW d 300 1641 lv st h Q ↔ AW d 300 1642 lv (.int 2 :: st) h Q := w_st rfl rfl rfl rfl rfl
set_option maxRecDepth 20000 in
theorem s300_1642 {d : Nat} {st : List Value} {h : aM} {Q : Option Value → aM → Prop} {lv : aV} {x y : Int32} : AW d 300 1642 lv (.int y :: .int x :: st) h Q ↔ AW d 300 1643 lv (.int (x + y) :: st) h Q := w_st rfl rfl rfl rfl rfl
set_option maxRecDepth 20000 in
theorem s300_1643 {d : Nat} {st : List Value} {h : aM} {Q : Option Value → aM → Prop} {lv : aV} {a : Nat} {i : Int32} : AW d 300 1643 lv (.int i :: .ref a :: st) h Q ↔ inA h a 100 i ∧ AW d 300 1644 lv (.int (gi h a i.toNatClampNeg) :: st) h Q := w_ite rfl rfl rfl rfl rfl aArr_iff
set_option maxRecDepth 20000 in
theorem s300_1644 {d : Nat} {st : List Value} {h : aM} {Q : Option Value → aM → Prop} {lv : aV} {a : Nat} {x0 : Int32} {x1 : Int32} : AW (d + 1) 300 1644 lv (.int x1 :: .int x0 :: .ref a :: st) h Q ↔ (sh h a = some (11, 50) ∧ cs st ≤ 8) ∧ AW d 273 0 [some (.ref a), some (.int x0), some (.int x1), none, none] [] h (fun v h => AW (d + 1) 300 1647 lv (v.toList ++ st) h Q) := w_c (k := 300) (pc := 1644) (pc' := 1647) (as := [.ref a, .int x0, .int x1]) (st := st) (st' := (.int x1 :: .int x0 :: .ref a :: st)) (lv' := [some (.ref a), some (.int x0), some (.int x1), none, none]) (h := h) (r3 := 11) rfl rfl rfl mi273 rfl rfl (Nat.le_of_ble_eq_true rfl) (rc_v rfl) rfl rfl
set_option maxRecDepth 20000 in
theorem s300_1647 {d : Nat} {st : List Value} {h : aM} {Q : Option Value → aM → Prop} {lv : aV} {x y : Int32} : AW d 300 1647 lv (.int y :: .int x :: st) h Q ↔ if x = y then AW d 300 1703 lv st h Q else AW d 300 1650 lv st h Q := w_if rfl rfl rfl rfl rfl c2_eq
set_option maxRecDepth 20000 in
theorem s300_1650 {d : Nat} {st : List Value} {h : aM} {Q : Option Value → aM → Prop} {lv : aV} : AW d 300 1650 lv st h Q ↔ AW d 300 1651 lv (.int 0 :: st) h Q := w_st rfl rfl rfl rfl rfl
set_option maxRecDepth 20000 in
theorem s300_1651 {d : Nat} {h : aM} {Q : Option Value → aM → Prop} {lv : aV} {x : Int32} : AW d 300 1651 lv [.int x] h Q ↔ narrow .boolean (.int x) = .int x ∧ Q (some (.int x)) h := w_rz rfl rfl
set_option maxRecDepth 20000 in
theorem s300_1652 {d : Nat} {st : List Value} {h : aM} {Q : Option Value → aM → Prop} {v0 v2 v3 v4 v5 v6 : Option Value} {x : Nat} : AW d 300 1652 [v0, some (.ref x), v2, v3, v4, v5, v6] st h Q ↔ AW d 300 1653 [v0, some (.ref x), v2, v3, v4, v5, v6] (.ref x :: st) h Q := w_st rfl rfl rfl rfl rfl
set_option maxRecDepth 20000 in
theorem s300_1653 {d : Nat} {st : List Value} {h : aM} {Q : Option Value → aM → Prop} {lv : aV} {a : Nat} : AW (d + 1) 300 1653 lv (.ref a :: st) h Q ↔ (sh h a = some (10, 19) ∧ cs st ≤ 8) ∧ AW d 119 0 [some (.ref a)] [] h (fun v h => AW (d + 1) 300 1656 lv (v.toList ++ st) h Q) := w_c (k := 300) (pc := 1653) (pc' := 1656) (as := [.ref a]) (st := st) (st' := (.ref a :: st)) (lv' := [some (.ref a)]) (h := h) (r3 := 10) rfl rfl rfl mi119 rfl rfl (Nat.le_of_ble_eq_true rfl) (rc_v rfl) rfl rfl
set_option maxRecDepth 20000 in
theorem s300_1656 {d : Nat} {st : List Value} {h : aM} {Q : Option Value → aM → Prop} {v0 v1 v3 v4 v5 v6 : Option Value} {x : Nat} : AW d 300 1656 [v0, v1, some (.ref x), v3, v4, v5, v6] st h Q ↔ AW d 300 1657 [v0, v1, some (.ref x), v3, v4, v5, v6] (.ref x :: st) h Q := w_st rfl rfl rfl rfl rfl
set_option maxRecDepth 20000 in
theorem s300_1657 {d : Nat} {st : List Value} {h : aM} {Q : Option Value → aM → Prop} {lv : aV} {a : Nat} : AW (d + 1) 300 1657 lv (.ref a :: st) h Q ↔ (sh h a = some (11, 50) ∧ cs st ≤ 8) ∧ AW d 274 0 [some (.ref a), none] [] h (fun v h => AW (d + 1) 300 1660 lv (v.toList ++ st) h Q) := w_c (k := 300) (pc := 1657) (pc' := 1660) (as := [.ref a]) (st := st) (st' := (.ref a :: st)) (lv' := [some (.ref a), none]) (h := h) (r3 := 11) rfl rfl rfl mi274 rfl rfl (Nat.le_of_ble_eq_true rfl) (rc_v rfl) rfl rfl
set_option maxRecDepth 20000 in
theorem s300_1660 {d : Nat} {st : List Value} {h : aM} {Q : Option Value → aM → Prop} {lv : aV} {x y : Int32} : AW d 300 1660 lv (.int y :: .int x :: st) h Q ↔ if x = y then AW d 300 1703 lv st h Q else AW d 300 1663 lv st h Q := w_if rfl rfl rfl rfl rfl c2_eq
set_option maxRecDepth 20000 in
theorem s300_1663 {d : Nat} {st : List Value} {h : aM} {Q : Option Value → aM → Prop} {lv : aV} : AW d 300 1663 lv st h Q ↔ AW d 300 1664 lv (.int 0 :: st) h Q := w_st rfl rfl rfl rfl rfl
set_option maxRecDepth 20000 in
theorem s300_1664 {d : Nat} {h : aM} {Q : Option Value → aM → Prop} {lv : aV} {x : Int32} : AW d 300 1664 lv [.int x] h Q ↔ narrow .boolean (.int x) = .int x ∧ Q (some (.int x)) h := w_rz rfl rfl
set_option maxRecDepth 20000 in
theorem s300_1665 {d : Nat} {st : List Value} {h : aM} {Q : Option Value → aM → Prop} {v0 v2 v3 v4 v5 v6 : Option Value} {x : Nat} : AW d 300 1665 [v0, some (.ref x), v2, v3, v4, v5, v6] st h Q ↔ AW d 300 1666 [v0, some (.ref x), v2, v3, v4, v5, v6] (.ref x :: st) h Q := w_st rfl rfl rfl rfl rfl
set_option maxRecDepth 20000 in
theorem s300_1666 {d : Nat} {st : List Value} {h : aM} {Q : Option Value → aM → Prop} {lv : aV} {a : Nat} : AW (d + 1) 300 1666 lv (.ref a :: st) h Q ↔ (sh h a = some (10, 19) ∧ cs st ≤ 8) ∧ AW d 120 0 [some (.ref a)] [] h (fun v h => AW (d + 1) 300 1669 lv (v.toList ++ st) h Q) := w_c (k := 300) (pc := 1666) (pc' := 1669) (as := [.ref a]) (st := st) (st' := (.ref a :: st)) (lv' := [some (.ref a)]) (h := h) (r3 := 10) rfl rfl rfl mi120 rfl rfl (Nat.le_of_ble_eq_true rfl) (rc_v rfl) rfl rfl
set_option maxRecDepth 20000 in
theorem s300_1669 {d : Nat} {st : List Value} {h : aM} {Q : Option Value → aM → Prop} {v0 v1 v3 v4 v5 v6 : Option Value} {x : Nat} : AW d 300 1669 [v0, v1, some (.ref x), v3, v4, v5, v6] st h Q ↔ AW d 300 1670 [v0, v1, some (.ref x), v3, v4, v5, v6] (.ref x :: st) h Q := w_st rfl rfl rfl rfl rfl
set_option maxRecDepth 20000 in
theorem s300_1670 {d : Nat} {st : List Value} {h : aM} {Q : Option Value → aM → Prop} {lv : aV} {a : Nat} : AW (d + 1) 300 1670 lv (.ref a :: st) h Q ↔ (sh h a = some (11, 50) ∧ cs st ≤ 8) ∧ AW d 275 0 [some (.ref a), none] [] h (fun v h => AW (d + 1) 300 1673 lv (v.toList ++ st) h Q) := w_c (k := 300) (pc := 1670) (pc' := 1673) (as := [.ref a]) (st := st) (st' := (.ref a :: st)) (lv' := [some (.ref a), none]) (h := h) (r3 := 11) rfl rfl rfl mi275 rfl rfl (Nat.le_of_ble_eq_true rfl) (rc_v rfl) rfl rfl
set_option maxRecDepth 20000 in
theorem s300_1673 {d : Nat} {st : List Value} {h : aM} {Q : Option Value → aM → Prop} {lv : aV} {x y : Int32} : AW d 300 1673 lv (.int y :: .int x :: st) h Q ↔ if x = y then AW d 300 1703 lv st h Q else AW d 300 1676 lv st h Q := w_if rfl rfl rfl rfl rfl c2_eq
set_option maxRecDepth 20000 in
theorem s300_1676 {d : Nat} {st : List Value} {h : aM} {Q : Option Value → aM → Prop} {lv : aV} : AW d 300 1676 lv st h Q ↔ AW d 300 1677 lv (.int 0 :: st) h Q := w_st rfl rfl rfl rfl rfl
set_option maxRecDepth 20000 in
theorem s300_1677 {d : Nat} {h : aM} {Q : Option Value → aM → Prop} {lv : aV} {x : Int32} : AW d 300 1677 lv [.int x] h Q ↔ narrow .boolean (.int x) = .int x ∧ Q (some (.int x)) h := w_rz rfl rfl
set_option maxRecDepth 20000 in
theorem s300_1678 {d : Nat} {st : List Value} {h : aM} {Q : Option Value → aM → Prop} {v0 v2 v3 v4 v5 v6 : Option Value} {x : Nat} : AW d 300 1678 [v0, some (.ref x), v2, v3, v4, v5, v6] st h Q ↔ AW d 300 1679 [v0, some (.ref x), v2, v3, v4, v5, v6] (.ref x :: st) h Q := w_st rfl rfl rfl rfl rfl
set_option maxRecDepth 20000 in
theorem s300_1679 {d : Nat} {st : List Value} {h : aM} {Q : Option Value → aM → Prop} {v1 v2 v3 v4 v5 v6 : Option Value} {x : Nat} : AW d 300 1679 [some (.ref x), v1, v2, v3, v4, v5, v6] st h Q ↔ AW d 300 1680 [some (.ref x), v1, v2, v3, v4, v5, v6] (.ref x :: st) h Q := w_st rfl rfl rfl rfl rfl
set_option maxRecDepth 20000 in
theorem s300_1680 {d : Nat} {st : List Value} {h : aM} {Q : Option Value → aM → Prop} {v0 v1 v2 v3 v5 v6 : Option Value} {x : Int32} : AW d 300 1680 [v0, v1, v2, v3, some (.int x), v5, v6] st h Q ↔ AW d 300 1682 [v0, v1, v2, v3, some (.int x), v5, v6] (.int x :: st) h Q := w_st rfl rfl rfl rfl rfl
set_option maxRecDepth 20000 in
theorem s300_1682 {d : Nat} {st : List Value} {h : aM} {Q : Option Value → aM → Prop} {lv : aV} : AW d 300 1682 lv st h Q ↔ AW d 300 1683 lv (.int 1 :: st) h Q := w_st rfl rfl rfl rfl rfl
set_option maxRecDepth 20000 in
theorem s300_1683 {d : Nat} {st : List Value} {h : aM} {Q : Option Value → aM → Prop} {lv : aV} {x y : Int32} : AW d 300 1683 lv (.int y :: .int x :: st) h Q ↔ AW d 300 1684 lv (.int (x + y) :: st) h Q := w_st rfl rfl rfl rfl rfl
set_option maxRecDepth 20000 in
theorem s300_1684 {d : Nat} {st : List Value} {h : aM} {Q : Option Value → aM → Prop} {lv : aV} {a : Nat} {i : Int32} : AW d 300 1684 lv (.int i :: .ref a :: st) h Q ↔ inA h a 100 i ∧ AW d 300 1685 lv (.int (gi h a i.toNatClampNeg) :: st) h Q := w_ite rfl rfl rfl rfl rfl aArr_iff
set_option maxRecDepth 20000 in
theorem s300_1685 {d : Nat} {st : List Value} {h : aM} {Q : Option Value → aM → Prop} {lv : aV} {a : Nat} {x0 : Int32} : AW (d + 1) 300 1685 lv (.int x0 :: .ref a :: st) h Q ↔ (sh h a = some (10, 19) ∧ cs st ≤ 8) ∧ AW d 99 0 [some (.ref a), some (.int x0)] [] h (fun v h => AW (d + 1) 300 1688 lv (v.toList ++ st) h Q) := w_c (k := 300) (pc := 1685) (pc' := 1688) (as := [.ref a, .int x0]) (st := st) (st' := (.int x0 :: .ref a :: st)) (lv' := [some (.ref a), some (.int x0)]) (h := h) (r3 := 10) rfl rfl rfl mi99 rfl rfl (Nat.le_of_ble_eq_true rfl) (rc_v rfl) rfl rfl
set_option maxRecDepth 20000 in
theorem s300_1688 {d : Nat} {st : List Value} {h : aM} {Q : Option Value → aM → Prop} {v0 v1 v3 v4 v5 v6 : Option Value} {x : Nat} : AW d 300 1688 [v0, v1, some (.ref x), v3, v4, v5, v6] st h Q ↔ AW d 300 1689 [v0, v1, some (.ref x), v3, v4, v5, v6] (.ref x :: st) h Q := w_st rfl rfl rfl rfl rfl
set_option maxRecDepth 20000 in
theorem s300_1689 {d : Nat} {st : List Value} {h : aM} {Q : Option Value → aM → Prop} {v1 v2 v3 v4 v5 v6 : Option Value} {x : Nat} : AW d 300 1689 [some (.ref x), v1, v2, v3, v4, v5, v6] st h Q ↔ AW d 300 1690 [some (.ref x), v1, v2, v3, v4, v5, v6] (.ref x :: st) h Q := w_st rfl rfl rfl rfl rfl
set_option maxRecDepth 20000 in
theorem s300_1690 {d : Nat} {st : List Value} {h : aM} {Q : Option Value → aM → Prop} {v0 v1 v2 v3 v5 v6 : Option Value} {x : Int32} : AW d 300 1690 [v0, v1, v2, v3, some (.int x), v5, v6] st h Q ↔ AW d 300 1692 [v0, v1, v2, v3, some (.int x), v5, v6] (.int x :: st) h Q := w_st rfl rfl rfl rfl rfl
set_option maxRecDepth 20000 in
theorem s300_1692 {d : Nat} {st : List Value} {h : aM} {Q : Option Value → aM → Prop} {lv : aV} : AW d 300 1692 lv st h Q ↔ AW d 300 1693 lv (.int 1 :: st) h Q := w_st rfl rfl rfl rfl rfl
set_option maxRecDepth 20000 in
theorem s300_1693 {d : Nat} {st : List Value} {h : aM} {Q : Option Value → aM → Prop} {lv : aV} {x y : Int32} : AW d 300 1693 lv (.int y :: .int x :: st) h Q ↔ AW d 300 1694 lv (.int (x + y) :: st) h Q := w_st rfl rfl rfl rfl rfl
set_option maxRecDepth 20000 in
theorem s300_1694 {d : Nat} {st : List Value} {h : aM} {Q : Option Value → aM → Prop} {lv : aV} {a : Nat} {i : Int32} : AW d 300 1694 lv (.int i :: .ref a :: st) h Q ↔ inA h a 100 i ∧ AW d 300 1695 lv (.int (gi h a i.toNatClampNeg) :: st) h Q := w_ite rfl rfl rfl rfl rfl aArr_iff
set_option maxRecDepth 20000 in
theorem s300_1695 {d : Nat} {st : List Value} {h : aM} {Q : Option Value → aM → Prop} {lv : aV} {a : Nat} {x0 : Int32} : AW (d + 1) 300 1695 lv (.int x0 :: .ref a :: st) h Q ↔ (sh h a = some (11, 50) ∧ cs st ≤ 8) ∧ AW d 276 0 [some (.ref a), some (.int x0), none, none] [] h (fun v h => AW (d + 1) 300 1698 lv (v.toList ++ st) h Q) := w_c (k := 300) (pc := 1695) (pc' := 1698) (as := [.ref a, .int x0]) (st := st) (st' := (.int x0 :: .ref a :: st)) (lv' := [some (.ref a), some (.int x0), none, none]) (h := h) (r3 := 11) rfl rfl rfl mi276 rfl rfl (Nat.le_of_ble_eq_true rfl) (rc_v rfl) rfl rfl
set_option maxRecDepth 20000 in
theorem s300_1698 {d : Nat} {st : List Value} {h : aM} {Q : Option Value → aM → Prop} {lv : aV} {x y : Int32} : AW d 300 1698 lv (.int y :: .int x :: st) h Q ↔ if x = y then AW d 300 1703 lv st h Q else AW d 300 1701 lv st h Q := w_if rfl rfl rfl rfl rfl c2_eq
set_option maxRecDepth 20000 in
theorem s300_1701 {d : Nat} {st : List Value} {h : aM} {Q : Option Value → aM → Prop} {lv : aV} : AW d 300 1701 lv st h Q ↔ AW d 300 1702 lv (.int 0 :: st) h Q := w_st rfl rfl rfl rfl rfl
set_option maxRecDepth 20000 in
theorem s300_1702 {d : Nat} {h : aM} {Q : Option Value → aM → Prop} {lv : aV} {x : Int32} : AW d 300 1702 lv [.int x] h Q ↔ narrow .boolean (.int x) = .int x ∧ Q (some (.int x)) h := w_rz rfl rfl
set_option maxRecDepth 20000 in
theorem s300_1703 {d : Nat} {st : List Value} {h : aM} {Q : Option Value → aM → Prop} {v0 v1 v2 v3 v5 v6 : Option Value} {x : Int32} : AW d 300 1703 [v0, v1, v2, v3, some (.int x), v5, v6] st h Q ↔ AW d 300 1706 [v0, v1, v2, kl v3, some (.int (x + 6)), v5, v6] st h Q := w_in (i := 3) rfl rfl rfl rfl rfl rfl (Nat.le_of_ble_eq_true rfl) rfl
set_option maxRecDepth 20000 in
theorem s300_1706 {d : Nat} {st : List Value} {h : aM} {Q : Option Value → aM → Prop} {lv : aV} : AW d 300 1706 lv st h Q ↔ AW d 300 23 lv st h Q := w_st rfl rfl rfl rfl rfl
set_option maxRecDepth 20000 in
theorem s300_1709 {d : Nat} {st : List Value} {h : aM} {Q : Option Value → aM → Prop} {lv : aV} : AW d 300 1709 lv st h Q ↔ AW d 300 1710 lv (.int 1 :: st) h Q := w_st rfl rfl rfl rfl rfl
set_option maxRecDepth 20000 in
theorem s300_1710 {d : Nat} {h : aM} {Q : Option Value → aM → Prop} {lv : aV} {x : Int32} : AW d 300 1710 lv [.int x] h Q ↔ narrow .boolean (.int x) = .int x ∧ Q (some (.int x)) h := w_rz rfl rfl
