/-! ===== THE FRESH HEAP AND THE CONSTRUCTORS (by program: wip/gen/mk40.py) ===== -/
def F_16 : Nat → Value := (qfu (qfu (qfu (qfu (qfu (qfu (qfu (qfu (qfu (qfu (qfu (qdef 10) 0 (.ref 17)) 2 (.ref 18)) 4 (.ref 19)) 5 (.ref 27)) 6 (.ref 30)) 7 (.ref 39)) 8 (.ref 41)) 9 (.ref 43)) 10 (.ref 46)) 11 (.ref 50)) 12 (.ref 53))
theorem F_16_0 : F_16 0 = .ref 17 := rfl
theorem F_16_1 : F_16 1 = .int 0 := rfl
theorem F_16_2 : F_16 2 = .ref 18 := rfl
theorem F_16_3 : F_16 3 = .int 0 := rfl
theorem F_16_4 : F_16 4 = .ref 19 := rfl
theorem F_16_5 : F_16 5 = .ref 27 := rfl
theorem F_16_6 : F_16 6 = .ref 30 := rfl
theorem F_16_7 : F_16 7 = .ref 39 := rfl
theorem F_16_8 : F_16 8 = .ref 41 := rfl
theorem F_16_9 : F_16 9 = .ref 43 := rfl
theorem F_16_10 : F_16 10 = .ref 46 := rfl
theorem F_16_11 : F_16 11 = .ref 50 := rfl
theorem F_16_12 : F_16 12 = .ref 53 := rfl
def F_19 : Nat → Value := (qfu (qfu (qfu (qfu (qfu (qfu (qfu (qfu (qdef 2) 0 (.ref 20)) 3 (.int 2)) 4 (.ref 21)) 5 (.ref 22)) 7 (.ref 23)) 8 (.ref 24)) 9 (.ref 25)) 10 (.ref 26))
theorem F_19_0 : F_19 0 = .ref 20 := rfl
theorem F_19_1 : F_19 1 = .int 0 := rfl
theorem F_19_2 : F_19 2 = .int 0 := rfl
theorem F_19_3 : F_19 3 = .int 2 := rfl
theorem F_19_4 : F_19 4 = .ref 21 := rfl
theorem F_19_5 : F_19 5 = .ref 22 := rfl
theorem F_19_6 : F_19 6 = .int 0 := rfl
theorem F_19_7 : F_19 7 = .ref 23 := rfl
theorem F_19_8 : F_19 8 = .ref 24 := rfl
theorem F_19_9 : F_19 9 = .ref 25 := rfl
theorem F_19_10 : F_19 10 = .ref 26 := rfl
def F_27 : Nat → Value := (qfu (qfu (qfu (qfu (qdef 7) 1 (.ref 28)) 2 (.int (-1))) 3 (.long 1)) 4 (.ref 29))
theorem F_27_0 : F_27 0 = .null := rfl
theorem F_27_1 : F_27 1 = .ref 28 := rfl
theorem F_27_2 : F_27 2 = .int (-1) := rfl
theorem F_27_3 : F_27 3 = .long 1 := rfl
theorem F_27_4 : F_27 4 = .ref 29 := rfl
def F_30 : Nat → Value := (qfu (qfu (qfu (qfu (qfu (qfu (qfu (qfu (qdef 4) 0 (.ref 31)) 3 (.ref 32)) 4 (.ref 33)) 7 (.ref 34)) 8 (.ref 35)) 9 (.ref 36)) 10 (.ref 37)) 11 (.ref 38))
theorem F_30_0 : F_30 0 = .ref 31 := rfl
theorem F_30_1 : F_30 1 = .int 0 := rfl
theorem F_30_2 : F_30 2 = .int 0 := rfl
theorem F_30_3 : F_30 3 = .ref 32 := rfl
theorem F_30_4 : F_30 4 = .ref 33 := rfl
theorem F_30_5 : F_30 5 = .null := rfl
theorem F_30_6 : F_30 6 = .int 0 := rfl
theorem F_30_7 : F_30 7 = .ref 34 := rfl
theorem F_30_8 : F_30 8 = .ref 35 := rfl
theorem F_30_9 : F_30 9 = .ref 36 := rfl
theorem F_30_10 : F_30 10 = .ref 37 := rfl
theorem F_30_11 : F_30 11 = .ref 38 := rfl
def F_39 : Nat → Value := (qfu (qfu (qdef 5) 0 (.int 3)) 1 (.ref 40))
theorem F_39_0 : F_39 0 = .int 3 := rfl
theorem F_39_1 : F_39 1 = .ref 40 := rfl
theorem F_39_2 : F_39 2 = .int 0 := rfl
def F_41 : Nat → Value := (qfu (qdef 1) 0 (.ref 42))
theorem F_41_0 : F_41 0 = .ref 42 := rfl
theorem F_41_1 : F_41 1 = .int 0 := rfl
def F_43 : Nat → Value := (qfu (qfu (qdef 9) 0 (.ref 44)) 1 (.ref 45))
theorem F_43_0 : F_43 0 = .ref 44 := rfl
theorem F_43_1 : F_43 1 = .ref 45 := rfl
theorem F_43_2 : F_43 2 = .int 0 := rfl
theorem F_43_3 : F_43 3 = .int 0 := rfl
theorem F_43_4 : F_43 4 = .null := rfl
def F_46 : Nat → Value := (qfu (qfu (qfu (qdef 3) 3 (.ref 47)) 4 (.ref 48)) 5 (.ref 49))
theorem F_46_0 : F_46 0 = .null := rfl
theorem F_46_1 : F_46 1 = .int 0 := rfl
theorem F_46_2 : F_46 2 = .int 0 := rfl
theorem F_46_3 : F_46 3 = .ref 47 := rfl
theorem F_46_4 : F_46 4 = .ref 48 := rfl
theorem F_46_5 : F_46 5 = .ref 49 := rfl
def F_50 : Nat → Value := (qfu (qfu (qfu (qdef 6) 0 (.ref 51)) 4 (.ref 52)) 7 (.int (-1)))
theorem F_50_0 : F_50 0 = .ref 51 := rfl
theorem F_50_1 : F_50 1 = .int 0 := rfl
theorem F_50_2 : F_50 2 = .int 0 := rfl
theorem F_50_3 : F_50 3 = .int 0 := rfl
theorem F_50_4 : F_50 4 = .ref 52 := rfl
theorem F_50_5 : F_50 5 = .int 0 := rfl
theorem F_50_6 : F_50 6 = .int 0 := rfl
theorem F_50_7 : F_50 7 = .int (-1) := rfl
def F_53 : Nat → Value := (qfu (qdef 0) 0 (.ref 54))
theorem F_53_0 : F_53 0 = .ref 54 := rfl
theorem F_53_1 : F_53 1 = .int 0 := rfl
def F_55 : Nat → Value := (qfu (qfu (qfu (qfu (qfu (qfu (qfu (qfu (qfu (qfu (qfu (qfu (qfu (qfu (qfu (qfu (qfu (qfu (qfu (qfu (qfu (qfu (qfu (qfu (qfu (qfu (qfu (qfu (qfu (qfu (qfu (qfu (qfu (qfu (qfu (qfu (qfu (qfu (qfu (qfu (qfu (qfu (qfu (qdef 11) 1 (.ref 56)) 2 (.ref 57)) 3 (.ref 58)) 4 (.ref 59)) 5 (.ref 60)) 6 (.ref 61)) 7 (.ref 62)) 10 (.ref 63)) 12 (.ref 64)) 13 (.ref 65)) 14 (.ref 66)) 15 (.ref 67)) 16 (.ref 68)) 17 (.ref 69)) 19 (.ref 70)) 20 (.ref 71)) 21 (.ref 72)) 23 (.ref 73)) 24 (.ref 74)) 26 (.ref 75)) 27 (.ref 76)) 29 (.ref 77)) 30 (.ref 78)) 31 (.ref 79)) 32 (.int 3)) 34 (.ref 80)) 36 (.ref 81)) 37 (.ref 82)) 38 (.ref 83)) 39 (.ref 84)) 40 (.ref 85)) 42 (.ref 86)) 44 (.ref 87)) 45 (.ref 88)) 46 (.ref 89)) 47 (.ref 90)) 48 (.ref 91)) 49 (.ref 92)) 50 (.ref 93)) 52 (.int (-1))) 55 (.ref 94)) 57 (.ref 95)) 59 (.ref 96))
theorem F_55_0 : F_55 0 = .int 0 := rfl
theorem F_55_1 : F_55 1 = .ref 56 := rfl
theorem F_55_2 : F_55 2 = .ref 57 := rfl
theorem F_55_3 : F_55 3 = .ref 58 := rfl
theorem F_55_4 : F_55 4 = .ref 59 := rfl
theorem F_55_5 : F_55 5 = .ref 60 := rfl
theorem F_55_6 : F_55 6 = .ref 61 := rfl
theorem F_55_7 : F_55 7 = .ref 62 := rfl
theorem F_55_8 : F_55 8 = .int 0 := rfl
theorem F_55_9 : F_55 9 = .int 0 := rfl
theorem F_55_10 : F_55 10 = .ref 63 := rfl
theorem F_55_11 : F_55 11 = .int 0 := rfl
theorem F_55_12 : F_55 12 = .ref 64 := rfl
theorem F_55_13 : F_55 13 = .ref 65 := rfl
theorem F_55_14 : F_55 14 = .ref 66 := rfl
theorem F_55_15 : F_55 15 = .ref 67 := rfl
theorem F_55_16 : F_55 16 = .ref 68 := rfl
theorem F_55_17 : F_55 17 = .ref 69 := rfl
theorem F_55_18 : F_55 18 = .int 0 := rfl
theorem F_55_19 : F_55 19 = .ref 70 := rfl
theorem F_55_20 : F_55 20 = .ref 71 := rfl
theorem F_55_21 : F_55 21 = .ref 72 := rfl
theorem F_55_22 : F_55 22 = .int 0 := rfl
theorem F_55_23 : F_55 23 = .ref 73 := rfl
theorem F_55_24 : F_55 24 = .ref 74 := rfl
theorem F_55_25 : F_55 25 = .int 0 := rfl
theorem F_55_26 : F_55 26 = .ref 75 := rfl
theorem F_55_27 : F_55 27 = .ref 76 := rfl
theorem F_55_28 : F_55 28 = .int 0 := rfl
theorem F_55_29 : F_55 29 = .ref 77 := rfl
theorem F_55_30 : F_55 30 = .ref 78 := rfl
theorem F_55_31 : F_55 31 = .ref 79 := rfl
theorem F_55_32 : F_55 32 = .int 3 := rfl
theorem F_55_33 : F_55 33 = .int 0 := rfl
theorem F_55_34 : F_55 34 = .ref 80 := rfl
theorem F_55_35 : F_55 35 = .int 0 := rfl
theorem F_55_36 : F_55 36 = .ref 81 := rfl
theorem F_55_37 : F_55 37 = .ref 82 := rfl
theorem F_55_38 : F_55 38 = .ref 83 := rfl
theorem F_55_39 : F_55 39 = .ref 84 := rfl
theorem F_55_40 : F_55 40 = .ref 85 := rfl
theorem F_55_41 : F_55 41 = .int 0 := rfl
theorem F_55_42 : F_55 42 = .ref 86 := rfl
theorem F_55_43 : F_55 43 = .int 0 := rfl
theorem F_55_44 : F_55 44 = .ref 87 := rfl
theorem F_55_45 : F_55 45 = .ref 88 := rfl
theorem F_55_46 : F_55 46 = .ref 89 := rfl
theorem F_55_47 : F_55 47 = .ref 90 := rfl
theorem F_55_48 : F_55 48 = .ref 91 := rfl
theorem F_55_49 : F_55 49 = .ref 92 := rfl
theorem F_55_50 : F_55 50 = .ref 93 := rfl
theorem F_55_51 : F_55 51 = .int 0 := rfl
theorem F_55_52 : F_55 52 = .int (-1) := rfl
theorem F_55_53 : F_55 53 = .int 0 := rfl
theorem F_55_54 : F_55 54 = .int 0 := rfl
theorem F_55_55 : F_55 55 = .ref 94 := rfl
theorem F_55_56 : F_55 56 = .int 0 := rfl
theorem F_55_57 : F_55 57 = .ref 95 := rfl
theorem F_55_58 : F_55 58 = .int 0 := rfl
theorem F_55_59 : F_55 59 = .ref 96 := rfl
theorem F_55_60 : F_55 60 = .long 0 := rfl
theorem F_55_61 : F_55 61 = .int 0 := rfl
theorem F_55_62 : F_55 62 = .int 0 := rfl
theorem qnF_all : qnF 0 = 2 ∧ qnF 1 = 2 ∧ qnF 2 = 11 ∧ qnF 3 = 6 ∧ qnF 4 = 12 ∧ qnF 5 = 3 ∧ qnF 6 = 8 ∧ qnF 7 = 5 ∧ qnF 8 = 10 ∧ qnF 9 = 5 ∧ qnF 10 = 13 ∧ qnF 11 = 63 := ⟨rfl, rfl, rfl, rfl, rfl, rfl, rfl, rfl, rfl, rfl, rfl, rfl⟩
/-- the cells of a new BodyCorners at 16, of a new BodyCornersModel at 55 -/
def hX (f : Nat → qC) : Nat → qC := (qup (qup (qup (qup (qup (qup (qup (qup (qup (qup (qup (qup (qup (qup (qup (qup (qup (qup (qup (qup (qup (qup (qup (qup (qup (qup (qup (qup (qup (qup (qup (qup (qup (qup (qup (qup (qup (qup (qup f 16 (.inr (10, F_16))) 17 (.inl (2, 24, .inr (.inr (fun _ => none))))) 18 (.inl (0, 64, .inl (fun _ => 0)))) 19 (.inr (2, F_19))) 20 (.inl (0, 64, .inl (fun _ => 0)))) 21 (.inl (0, 104, .inl (fun _ => 0)))) 22 (.inl (1, 520, .inr (.inl (fun _ => 0))))) 23 (.inl (1, 16, .inr (.inl (fun _ => 0))))) 24 (.inl (1, 5, .inr (.inl (fun _ => 0))))) 25 (.inl (0, 104, .inl (fun _ => 0)))) 26 (.inl (0, 208, .inl (fun _ => 0)))) 27 (.inr (7, F_27))) 28 (.inl (0, 16, .inl (fun _ => 0)))) 29 (.inl (1, 4, .inr (.inl (fun _ => 0))))) 30 (.inr (4, F_30))) 31 (.inl (0, 104, .inl (fun _ => 0)))) 32 (.inl (0, 256, .inl (fun _ => 0)))) 33 (.inl (0, 256, .inl (fun _ => 0)))) 34 (.inl (0, 16, .inl (fun _ => 0)))) 35 (.inl (0, 16, .inl (fun _ => 0)))) 36 (.inl (0, 104, .inl (fun _ => 0)))) 37 (.inl (0, 17, .inl (fun _ => 0)))) 38 (.inl (0, 16, .inl (fun _ => 0)))) 39 (.inr (5, F_39))) 40 (.inl (0, 24, .inl (fun _ => 0)))) 41 (.inr (1, F_41))) 42 (.inl (0, 104, .inl (fun _ => 0)))) 43 (.inr (9, F_43))) 44 (.inl (0, 4, .inl (fun _ => 0)))) 45 (.inl (1, 16, .inr (.inl (fun _ => 0))))) 46 (.inr (3, F_46))) 47 (.inl (0, 4, .inl (fun _ => 0)))) 48 (.inl (0, 4, .inl (fun _ => 0)))) 49 (.inl (0, 4, .inl (fun _ => 0)))) 50 (.inr (6, F_50))) 51 (.inl (0, 160, .inl (fun _ => 0)))) 52 (.inl (0, 135, .inl (fun _ => 0)))) 53 (.inr (0, F_53))) 54 (.inl (0, 32, .inl (fun _ => 0))))
def hM (f : Nat → qC) : Nat → qC := (qup (qup (qup (qup (qup (qup (qup (qup (qup (qup (qup (qup (qup (qup (qup (qup (qup (qup (qup (qup (qup (qup (qup (qup (qup (qup (qup (qup (qup (qup (qup (qup (qup (qup (qup (qup (qup (qup (qup (qup (qup (qup f 55 (.inr (11, F_55))) 56 (.inl (0, 24, .inl (fun _ => 0)))) 57 (.inl (0, 24, .inl (fun _ => 0)))) 58 (.inl (0, 24, .inl (fun _ => 0)))) 59 (.inl (0, 1536, .inl (fun _ => 0)))) 60 (.inl (0, 96, .inl (fun _ => 0)))) 61 (.inl (0, 19968, .inl (fun _ => 0)))) 62 (.inl (1, 12480, .inr (.inl (fun _ => 0))))) 63 (.inl (0, 1024, .inl (fun _ => 0)))) 64 (.inl (0, 2000, .inl (fun _ => 0)))) 65 (.inl (1, 10000, .inr (.inl (fun _ => 0))))) 66 (.inl (1, 5, .inr (.inl (fun _ => 0))))) 67 (.inl (0, 4, .inl (fun _ => 0)))) 68 (.inl (0, 256, .inl (fun _ => 0)))) 69 (.inl (0, 2000, .inl (fun _ => 0)))) 70 (.inl (0, 64, .inl (fun _ => 0)))) 71 (.inl (1, 1024, .inr (.inl (fun _ => 0))))) 72 (.inl (1, 256, .inr (.inl (fun _ => 0))))) 73 (.inl (0, 4, .inl (fun _ => 0)))) 74 (.inl (1, 16, .inr (.inl (fun _ => 0))))) 75 (.inl (0, 208, .inl (fun _ => 0)))) 76 (.inl (0, 208, .inl (fun _ => 0)))) 77 (.inl (0, 4096, .inl (fun _ => 0)))) 78 (.inl (0, 4096, .inl (fun _ => 0)))) 79 (.inl (0, 17, .inl (fun _ => 0)))) 80 (.inl (0, 24, .inl (fun _ => 0)))) 81 (.inl (0, 104, .inl (fun _ => 0)))) 82 (.inl (0, 16, .inl (fun _ => 0)))) 83 (.inl (0, 4, .inl (fun _ => 0)))) 84 (.inl (1, 16, .inr (.inl (fun _ => 0))))) 85 (.inl (0, 17, .inl (fun _ => 0)))) 86 (.inl (0, 4000, .inl (fun _ => 0)))) 87 (.inl (0, 4000, .inl (fun _ => 0)))) 88 (.inl (0, 4000, .inl (fun _ => 0)))) 89 (.inl (0, 4000, .inl (fun _ => 0)))) 90 (.inl (1, 16, .inr (.inl (fun _ => 0))))) 91 (.inl (0, 4, .inl (fun _ => 0)))) 92 (.inl (0, 4, .inl (fun _ => 0)))) 93 (.inl (0, 160, .inl (fun _ => 0)))) 94 (.inl (0, 32, .inl (fun _ => 0)))) 95 (.inl (0, 480, .inl (fun _ => 0)))) 96 (.inl (0, 32, .inl (fun _ => 0))))
theorem hX_16 {f : Nat → qC} : hX f 16 = .inr (10, F_16) := rfl
theorem hX_17 {f : Nat → qC} : hX f 17 = .inl (2, 24, .inr (.inr (fun _ => none))) := rfl
theorem hX_18 {f : Nat → qC} : hX f 18 = .inl (0, 64, .inl (fun _ => 0)) := rfl
theorem hX_19 {f : Nat → qC} : hX f 19 = .inr (2, F_19) := rfl
theorem hX_20 {f : Nat → qC} : hX f 20 = .inl (0, 64, .inl (fun _ => 0)) := rfl
theorem hX_21 {f : Nat → qC} : hX f 21 = .inl (0, 104, .inl (fun _ => 0)) := rfl
theorem hX_22 {f : Nat → qC} : hX f 22 = .inl (1, 520, .inr (.inl (fun _ => 0))) := rfl
theorem hX_23 {f : Nat → qC} : hX f 23 = .inl (1, 16, .inr (.inl (fun _ => 0))) := rfl
theorem hX_24 {f : Nat → qC} : hX f 24 = .inl (1, 5, .inr (.inl (fun _ => 0))) := rfl
theorem hX_25 {f : Nat → qC} : hX f 25 = .inl (0, 104, .inl (fun _ => 0)) := rfl
theorem hX_26 {f : Nat → qC} : hX f 26 = .inl (0, 208, .inl (fun _ => 0)) := rfl
theorem hX_27 {f : Nat → qC} : hX f 27 = .inr (7, F_27) := rfl
theorem hX_28 {f : Nat → qC} : hX f 28 = .inl (0, 16, .inl (fun _ => 0)) := rfl
theorem hX_29 {f : Nat → qC} : hX f 29 = .inl (1, 4, .inr (.inl (fun _ => 0))) := rfl
theorem hX_30 {f : Nat → qC} : hX f 30 = .inr (4, F_30) := rfl
theorem hX_31 {f : Nat → qC} : hX f 31 = .inl (0, 104, .inl (fun _ => 0)) := rfl
theorem hX_32 {f : Nat → qC} : hX f 32 = .inl (0, 256, .inl (fun _ => 0)) := rfl
theorem hX_33 {f : Nat → qC} : hX f 33 = .inl (0, 256, .inl (fun _ => 0)) := rfl
theorem hX_34 {f : Nat → qC} : hX f 34 = .inl (0, 16, .inl (fun _ => 0)) := rfl
theorem hX_35 {f : Nat → qC} : hX f 35 = .inl (0, 16, .inl (fun _ => 0)) := rfl
theorem hX_36 {f : Nat → qC} : hX f 36 = .inl (0, 104, .inl (fun _ => 0)) := rfl
theorem hX_37 {f : Nat → qC} : hX f 37 = .inl (0, 17, .inl (fun _ => 0)) := rfl
theorem hX_38 {f : Nat → qC} : hX f 38 = .inl (0, 16, .inl (fun _ => 0)) := rfl
theorem hX_39 {f : Nat → qC} : hX f 39 = .inr (5, F_39) := rfl
theorem hX_40 {f : Nat → qC} : hX f 40 = .inl (0, 24, .inl (fun _ => 0)) := rfl
theorem hX_41 {f : Nat → qC} : hX f 41 = .inr (1, F_41) := rfl
theorem hX_42 {f : Nat → qC} : hX f 42 = .inl (0, 104, .inl (fun _ => 0)) := rfl
theorem hX_43 {f : Nat → qC} : hX f 43 = .inr (9, F_43) := rfl
theorem hX_44 {f : Nat → qC} : hX f 44 = .inl (0, 4, .inl (fun _ => 0)) := rfl
theorem hX_45 {f : Nat → qC} : hX f 45 = .inl (1, 16, .inr (.inl (fun _ => 0))) := rfl
theorem hX_46 {f : Nat → qC} : hX f 46 = .inr (3, F_46) := rfl
theorem hX_47 {f : Nat → qC} : hX f 47 = .inl (0, 4, .inl (fun _ => 0)) := rfl
theorem hX_48 {f : Nat → qC} : hX f 48 = .inl (0, 4, .inl (fun _ => 0)) := rfl
theorem hX_49 {f : Nat → qC} : hX f 49 = .inl (0, 4, .inl (fun _ => 0)) := rfl
theorem hX_50 {f : Nat → qC} : hX f 50 = .inr (6, F_50) := rfl
theorem hX_51 {f : Nat → qC} : hX f 51 = .inl (0, 160, .inl (fun _ => 0)) := rfl
theorem hX_52 {f : Nat → qC} : hX f 52 = .inl (0, 135, .inl (fun _ => 0)) := rfl
theorem hX_53 {f : Nat → qC} : hX f 53 = .inr (0, F_53) := rfl
theorem hX_54 {f : Nat → qC} : hX f 54 = .inl (0, 32, .inl (fun _ => 0)) := rfl
theorem hM_55 {f : Nat → qC} : hM f 55 = .inr (11, F_55) := rfl
theorem hM_56 {f : Nat → qC} : hM f 56 = .inl (0, 24, .inl (fun _ => 0)) := rfl
theorem hM_57 {f : Nat → qC} : hM f 57 = .inl (0, 24, .inl (fun _ => 0)) := rfl
theorem hM_58 {f : Nat → qC} : hM f 58 = .inl (0, 24, .inl (fun _ => 0)) := rfl
theorem hM_59 {f : Nat → qC} : hM f 59 = .inl (0, 1536, .inl (fun _ => 0)) := rfl
theorem hM_60 {f : Nat → qC} : hM f 60 = .inl (0, 96, .inl (fun _ => 0)) := rfl
theorem hM_61 {f : Nat → qC} : hM f 61 = .inl (0, 19968, .inl (fun _ => 0)) := rfl
theorem hM_62 {f : Nat → qC} : hM f 62 = .inl (1, 12480, .inr (.inl (fun _ => 0))) := rfl
theorem hM_63 {f : Nat → qC} : hM f 63 = .inl (0, 1024, .inl (fun _ => 0)) := rfl
theorem hM_64 {f : Nat → qC} : hM f 64 = .inl (0, 2000, .inl (fun _ => 0)) := rfl
theorem hM_65 {f : Nat → qC} : hM f 65 = .inl (1, 10000, .inr (.inl (fun _ => 0))) := rfl
theorem hM_66 {f : Nat → qC} : hM f 66 = .inl (1, 5, .inr (.inl (fun _ => 0))) := rfl
theorem hM_67 {f : Nat → qC} : hM f 67 = .inl (0, 4, .inl (fun _ => 0)) := rfl
theorem hM_68 {f : Nat → qC} : hM f 68 = .inl (0, 256, .inl (fun _ => 0)) := rfl
theorem hM_69 {f : Nat → qC} : hM f 69 = .inl (0, 2000, .inl (fun _ => 0)) := rfl
theorem hM_70 {f : Nat → qC} : hM f 70 = .inl (0, 64, .inl (fun _ => 0)) := rfl
theorem hM_71 {f : Nat → qC} : hM f 71 = .inl (1, 1024, .inr (.inl (fun _ => 0))) := rfl
theorem hM_72 {f : Nat → qC} : hM f 72 = .inl (1, 256, .inr (.inl (fun _ => 0))) := rfl
theorem hM_73 {f : Nat → qC} : hM f 73 = .inl (0, 4, .inl (fun _ => 0)) := rfl
theorem hM_74 {f : Nat → qC} : hM f 74 = .inl (1, 16, .inr (.inl (fun _ => 0))) := rfl
theorem hM_75 {f : Nat → qC} : hM f 75 = .inl (0, 208, .inl (fun _ => 0)) := rfl
theorem hM_76 {f : Nat → qC} : hM f 76 = .inl (0, 208, .inl (fun _ => 0)) := rfl
theorem hM_77 {f : Nat → qC} : hM f 77 = .inl (0, 4096, .inl (fun _ => 0)) := rfl
theorem hM_78 {f : Nat → qC} : hM f 78 = .inl (0, 4096, .inl (fun _ => 0)) := rfl
theorem hM_79 {f : Nat → qC} : hM f 79 = .inl (0, 17, .inl (fun _ => 0)) := rfl
theorem hM_80 {f : Nat → qC} : hM f 80 = .inl (0, 24, .inl (fun _ => 0)) := rfl
theorem hM_81 {f : Nat → qC} : hM f 81 = .inl (0, 104, .inl (fun _ => 0)) := rfl
theorem hM_82 {f : Nat → qC} : hM f 82 = .inl (0, 16, .inl (fun _ => 0)) := rfl
theorem hM_83 {f : Nat → qC} : hM f 83 = .inl (0, 4, .inl (fun _ => 0)) := rfl
theorem hM_84 {f : Nat → qC} : hM f 84 = .inl (1, 16, .inr (.inl (fun _ => 0))) := rfl
theorem hM_85 {f : Nat → qC} : hM f 85 = .inl (0, 17, .inl (fun _ => 0)) := rfl
theorem hM_86 {f : Nat → qC} : hM f 86 = .inl (0, 4000, .inl (fun _ => 0)) := rfl
theorem hM_87 {f : Nat → qC} : hM f 87 = .inl (0, 4000, .inl (fun _ => 0)) := rfl
theorem hM_88 {f : Nat → qC} : hM f 88 = .inl (0, 4000, .inl (fun _ => 0)) := rfl
theorem hM_89 {f : Nat → qC} : hM f 89 = .inl (0, 4000, .inl (fun _ => 0)) := rfl
theorem hM_90 {f : Nat → qC} : hM f 90 = .inl (1, 16, .inr (.inl (fun _ => 0))) := rfl
theorem hM_91 {f : Nat → qC} : hM f 91 = .inl (0, 4, .inl (fun _ => 0)) := rfl
theorem hM_92 {f : Nat → qC} : hM f 92 = .inl (0, 4, .inl (fun _ => 0)) := rfl
theorem hM_93 {f : Nat → qC} : hM f 93 = .inl (0, 160, .inl (fun _ => 0)) := rfl
theorem hM_94 {f : Nat → qC} : hM f 94 = .inl (0, 32, .inl (fun _ => 0)) := rfl
theorem hM_95 {f : Nat → qC} : hM f 95 = .inl (0, 480, .inl (fun _ => 0)) := rfl
theorem hM_96 {f : Nat → qC} : hM f 96 = .inl (0, 32, .inl (fun _ => 0)) := rfl
/-- the heap with both objects new -/
def hF (f : Nat → qC) : Nat → qC := hM (hX f)
theorem hF_16 {f : Nat → qC} : hF f 16 = .inr (10, F_16) := rfl
theorem hF_17 {f : Nat → qC} : hF f 17 = .inl (2, 24, .inr (.inr (fun _ => none))) := rfl
theorem hF_18 {f : Nat → qC} : hF f 18 = .inl (0, 64, .inl (fun _ => 0)) := rfl
theorem hF_19 {f : Nat → qC} : hF f 19 = .inr (2, F_19) := rfl
theorem hF_20 {f : Nat → qC} : hF f 20 = .inl (0, 64, .inl (fun _ => 0)) := rfl
theorem hF_21 {f : Nat → qC} : hF f 21 = .inl (0, 104, .inl (fun _ => 0)) := rfl
theorem hF_22 {f : Nat → qC} : hF f 22 = .inl (1, 520, .inr (.inl (fun _ => 0))) := rfl
theorem hF_23 {f : Nat → qC} : hF f 23 = .inl (1, 16, .inr (.inl (fun _ => 0))) := rfl
theorem hF_24 {f : Nat → qC} : hF f 24 = .inl (1, 5, .inr (.inl (fun _ => 0))) := rfl
theorem hF_25 {f : Nat → qC} : hF f 25 = .inl (0, 104, .inl (fun _ => 0)) := rfl
theorem hF_26 {f : Nat → qC} : hF f 26 = .inl (0, 208, .inl (fun _ => 0)) := rfl
theorem hF_27 {f : Nat → qC} : hF f 27 = .inr (7, F_27) := rfl
theorem hF_28 {f : Nat → qC} : hF f 28 = .inl (0, 16, .inl (fun _ => 0)) := rfl
theorem hF_29 {f : Nat → qC} : hF f 29 = .inl (1, 4, .inr (.inl (fun _ => 0))) := rfl
theorem hF_30 {f : Nat → qC} : hF f 30 = .inr (4, F_30) := rfl
theorem hF_31 {f : Nat → qC} : hF f 31 = .inl (0, 104, .inl (fun _ => 0)) := rfl
theorem hF_32 {f : Nat → qC} : hF f 32 = .inl (0, 256, .inl (fun _ => 0)) := rfl
theorem hF_33 {f : Nat → qC} : hF f 33 = .inl (0, 256, .inl (fun _ => 0)) := rfl
theorem hF_34 {f : Nat → qC} : hF f 34 = .inl (0, 16, .inl (fun _ => 0)) := rfl
theorem hF_35 {f : Nat → qC} : hF f 35 = .inl (0, 16, .inl (fun _ => 0)) := rfl
theorem hF_36 {f : Nat → qC} : hF f 36 = .inl (0, 104, .inl (fun _ => 0)) := rfl
theorem hF_37 {f : Nat → qC} : hF f 37 = .inl (0, 17, .inl (fun _ => 0)) := rfl
theorem hF_38 {f : Nat → qC} : hF f 38 = .inl (0, 16, .inl (fun _ => 0)) := rfl
theorem hF_39 {f : Nat → qC} : hF f 39 = .inr (5, F_39) := rfl
theorem hF_40 {f : Nat → qC} : hF f 40 = .inl (0, 24, .inl (fun _ => 0)) := rfl
theorem hF_41 {f : Nat → qC} : hF f 41 = .inr (1, F_41) := rfl
theorem hF_42 {f : Nat → qC} : hF f 42 = .inl (0, 104, .inl (fun _ => 0)) := rfl
theorem hF_43 {f : Nat → qC} : hF f 43 = .inr (9, F_43) := rfl
theorem hF_44 {f : Nat → qC} : hF f 44 = .inl (0, 4, .inl (fun _ => 0)) := rfl
theorem hF_45 {f : Nat → qC} : hF f 45 = .inl (1, 16, .inr (.inl (fun _ => 0))) := rfl
theorem hF_46 {f : Nat → qC} : hF f 46 = .inr (3, F_46) := rfl
theorem hF_47 {f : Nat → qC} : hF f 47 = .inl (0, 4, .inl (fun _ => 0)) := rfl
theorem hF_48 {f : Nat → qC} : hF f 48 = .inl (0, 4, .inl (fun _ => 0)) := rfl
theorem hF_49 {f : Nat → qC} : hF f 49 = .inl (0, 4, .inl (fun _ => 0)) := rfl
theorem hF_50 {f : Nat → qC} : hF f 50 = .inr (6, F_50) := rfl
theorem hF_51 {f : Nat → qC} : hF f 51 = .inl (0, 160, .inl (fun _ => 0)) := rfl
theorem hF_52 {f : Nat → qC} : hF f 52 = .inl (0, 135, .inl (fun _ => 0)) := rfl
theorem hF_53 {f : Nat → qC} : hF f 53 = .inr (0, F_53) := rfl
theorem hF_54 {f : Nat → qC} : hF f 54 = .inl (0, 32, .inl (fun _ => 0)) := rfl
theorem hF_55 {f : Nat → qC} : hF f 55 = .inr (11, F_55) := rfl
theorem hF_56 {f : Nat → qC} : hF f 56 = .inl (0, 24, .inl (fun _ => 0)) := rfl
theorem hF_57 {f : Nat → qC} : hF f 57 = .inl (0, 24, .inl (fun _ => 0)) := rfl
theorem hF_58 {f : Nat → qC} : hF f 58 = .inl (0, 24, .inl (fun _ => 0)) := rfl
theorem hF_59 {f : Nat → qC} : hF f 59 = .inl (0, 1536, .inl (fun _ => 0)) := rfl
theorem hF_60 {f : Nat → qC} : hF f 60 = .inl (0, 96, .inl (fun _ => 0)) := rfl
theorem hF_61 {f : Nat → qC} : hF f 61 = .inl (0, 19968, .inl (fun _ => 0)) := rfl
theorem hF_62 {f : Nat → qC} : hF f 62 = .inl (1, 12480, .inr (.inl (fun _ => 0))) := rfl
theorem hF_63 {f : Nat → qC} : hF f 63 = .inl (0, 1024, .inl (fun _ => 0)) := rfl
theorem hF_64 {f : Nat → qC} : hF f 64 = .inl (0, 2000, .inl (fun _ => 0)) := rfl
theorem hF_65 {f : Nat → qC} : hF f 65 = .inl (1, 10000, .inr (.inl (fun _ => 0))) := rfl
theorem hF_66 {f : Nat → qC} : hF f 66 = .inl (1, 5, .inr (.inl (fun _ => 0))) := rfl
theorem hF_67 {f : Nat → qC} : hF f 67 = .inl (0, 4, .inl (fun _ => 0)) := rfl
theorem hF_68 {f : Nat → qC} : hF f 68 = .inl (0, 256, .inl (fun _ => 0)) := rfl
theorem hF_69 {f : Nat → qC} : hF f 69 = .inl (0, 2000, .inl (fun _ => 0)) := rfl
theorem hF_70 {f : Nat → qC} : hF f 70 = .inl (0, 64, .inl (fun _ => 0)) := rfl
theorem hF_71 {f : Nat → qC} : hF f 71 = .inl (1, 1024, .inr (.inl (fun _ => 0))) := rfl
theorem hF_72 {f : Nat → qC} : hF f 72 = .inl (1, 256, .inr (.inl (fun _ => 0))) := rfl
theorem hF_73 {f : Nat → qC} : hF f 73 = .inl (0, 4, .inl (fun _ => 0)) := rfl
theorem hF_74 {f : Nat → qC} : hF f 74 = .inl (1, 16, .inr (.inl (fun _ => 0))) := rfl
theorem hF_75 {f : Nat → qC} : hF f 75 = .inl (0, 208, .inl (fun _ => 0)) := rfl
theorem hF_76 {f : Nat → qC} : hF f 76 = .inl (0, 208, .inl (fun _ => 0)) := rfl
theorem hF_77 {f : Nat → qC} : hF f 77 = .inl (0, 4096, .inl (fun _ => 0)) := rfl
theorem hF_78 {f : Nat → qC} : hF f 78 = .inl (0, 4096, .inl (fun _ => 0)) := rfl
theorem hF_79 {f : Nat → qC} : hF f 79 = .inl (0, 17, .inl (fun _ => 0)) := rfl
theorem hF_80 {f : Nat → qC} : hF f 80 = .inl (0, 24, .inl (fun _ => 0)) := rfl
theorem hF_81 {f : Nat → qC} : hF f 81 = .inl (0, 104, .inl (fun _ => 0)) := rfl
theorem hF_82 {f : Nat → qC} : hF f 82 = .inl (0, 16, .inl (fun _ => 0)) := rfl
theorem hF_83 {f : Nat → qC} : hF f 83 = .inl (0, 4, .inl (fun _ => 0)) := rfl
theorem hF_84 {f : Nat → qC} : hF f 84 = .inl (1, 16, .inr (.inl (fun _ => 0))) := rfl
theorem hF_85 {f : Nat → qC} : hF f 85 = .inl (0, 17, .inl (fun _ => 0)) := rfl
theorem hF_86 {f : Nat → qC} : hF f 86 = .inl (0, 4000, .inl (fun _ => 0)) := rfl
theorem hF_87 {f : Nat → qC} : hF f 87 = .inl (0, 4000, .inl (fun _ => 0)) := rfl
theorem hF_88 {f : Nat → qC} : hF f 88 = .inl (0, 4000, .inl (fun _ => 0)) := rfl
theorem hF_89 {f : Nat → qC} : hF f 89 = .inl (0, 4000, .inl (fun _ => 0)) := rfl
theorem hF_90 {f : Nat → qC} : hF f 90 = .inl (1, 16, .inr (.inl (fun _ => 0))) := rfl
theorem hF_91 {f : Nat → qC} : hF f 91 = .inl (0, 4, .inl (fun _ => 0)) := rfl
theorem hF_92 {f : Nat → qC} : hF f 92 = .inl (0, 4, .inl (fun _ => 0)) := rfl
theorem hF_93 {f : Nat → qC} : hF f 93 = .inl (0, 160, .inl (fun _ => 0)) := rfl
theorem hF_94 {f : Nat → qC} : hF f 94 = .inl (0, 32, .inl (fun _ => 0)) := rfl
theorem hF_95 {f : Nat → qC} : hF f 95 = .inl (0, 480, .inl (fun _ => 0)) := rfl
theorem hF_96 {f : Nat → qC} : hF f 96 = .inl (0, 32, .inl (fun _ => 0)) := rfl
theorem hM_lt {f : Nat → qC} {a : Nat} (h : a < 55) : hM f a = f a := by
  unfold hM qup
  rw [if_neg (by omega)]
  rw [if_neg (by omega)]
  rw [if_neg (by omega)]
  rw [if_neg (by omega)]
  rw [if_neg (by omega)]
  rw [if_neg (by omega)]
  rw [if_neg (by omega)]
  rw [if_neg (by omega)]
  rw [if_neg (by omega)]
  rw [if_neg (by omega)]
  rw [if_neg (by omega)]
  rw [if_neg (by omega)]
  rw [if_neg (by omega)]
  rw [if_neg (by omega)]
  rw [if_neg (by omega)]
  rw [if_neg (by omega)]
  rw [if_neg (by omega)]
  rw [if_neg (by omega)]
  rw [if_neg (by omega)]
  rw [if_neg (by omega)]
  rw [if_neg (by omega)]
  rw [if_neg (by omega)]
  rw [if_neg (by omega)]
  rw [if_neg (by omega)]
  rw [if_neg (by omega)]
  rw [if_neg (by omega)]
  rw [if_neg (by omega)]
  rw [if_neg (by omega)]
  rw [if_neg (by omega)]
  rw [if_neg (by omega)]
  rw [if_neg (by omega)]
  rw [if_neg (by omega)]
  rw [if_neg (by omega)]
  rw [if_neg (by omega)]
  rw [if_neg (by omega)]
  rw [if_neg (by omega)]
  rw [if_neg (by omega)]
  rw [if_neg (by omega)]
  rw [if_neg (by omega)]
  rw [if_neg (by omega)]
  rw [if_neg (by omega)]
  rw [if_neg (by omega)]
theorem hX_lt {f : Nat → qC} {a : Nat} (h : a < 16) : hX f a = f a := by
  unfold hX qup
  rw [if_neg (by omega)]
  rw [if_neg (by omega)]
  rw [if_neg (by omega)]
  rw [if_neg (by omega)]
  rw [if_neg (by omega)]
  rw [if_neg (by omega)]
  rw [if_neg (by omega)]
  rw [if_neg (by omega)]
  rw [if_neg (by omega)]
  rw [if_neg (by omega)]
  rw [if_neg (by omega)]
  rw [if_neg (by omega)]
  rw [if_neg (by omega)]
  rw [if_neg (by omega)]
  rw [if_neg (by omega)]
  rw [if_neg (by omega)]
  rw [if_neg (by omega)]
  rw [if_neg (by omega)]
  rw [if_neg (by omega)]
  rw [if_neg (by omega)]
  rw [if_neg (by omega)]
  rw [if_neg (by omega)]
  rw [if_neg (by omega)]
  rw [if_neg (by omega)]
  rw [if_neg (by omega)]
  rw [if_neg (by omega)]
  rw [if_neg (by omega)]
  rw [if_neg (by omega)]
  rw [if_neg (by omega)]
  rw [if_neg (by omega)]
  rw [if_neg (by omega)]
  rw [if_neg (by omega)]
  rw [if_neg (by omega)]
  rw [if_neg (by omega)]
  rw [if_neg (by omega)]
  rw [if_neg (by omega)]
  rw [if_neg (by omega)]
  rw [if_neg (by omega)]
  rw [if_neg (by omega)]
