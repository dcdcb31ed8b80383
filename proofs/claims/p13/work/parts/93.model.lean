def fm_0 (_h0 : Nat) : List Value := fz_X11
def fm_1 (h0 : Nat) : List Value := [.ref (h0 + 268 + 1), .null, .null, .null, .null, .null, .null, .null, .int (xJ 0), .int (xJ 0), .int (xJ 0), .int (xJ 0), .int (xJ 0), .int (xJ 0), .int (xJ 0), .int (xJ 0), .int (xJ 0), .int (xJ 0), .null, .null, .null, .null, .null, .null, .null, .null, .null, .null, .null, .null, .null, .null, .null, .null, .int (xJ 0), .int (xJ 0), .int (xJ 0), .int (xJ 0), .null, .null, .null, .int (xJ 0), .int (xJ 0), .int (xJ 0), .int (xJ 0), .null, .null, .null, .int (xJ 0), .null, .null, .null, .null, .null, .null, .null, .null, .null, .int (xJ 0), .null, .null]
theorem fmL_0 (h0 : Nat) : 0 < (fm_0 h0).length := Nat.le_of_ble_eq_true rfl
theorem fmS_0 (h0 : Nat) : (fm_0 h0).set 0 (.ref (h0 + 268 + 1)) = fm_1 h0 := rfl
def fm_2 (h0 : Nat) : List Value := [.ref (h0 + 268 + 1), .ref (h0 + 268 + 2), .null, .null, .null, .null, .null, .null, .int (xJ 0), .int (xJ 0), .int (xJ 0), .int (xJ 0), .int (xJ 0), .int (xJ 0), .int (xJ 0), .int (xJ 0), .int (xJ 0), .int (xJ 0), .null, .null, .null, .null, .null, .null, .null, .null, .null, .null, .null, .null, .null, .null, .null, .null, .int (xJ 0), .int (xJ 0), .int (xJ 0), .int (xJ 0), .null, .null, .null, .int (xJ 0), .int (xJ 0), .int (xJ 0), .int (xJ 0), .null, .null, .null, .int (xJ 0), .null, .null, .null, .null, .null, .null, .null, .null, .null, .int (xJ 0), .null, .null]
theorem fmL_1 (h0 : Nat) : 1 < (fm_1 h0).length := Nat.le_of_ble_eq_true rfl
theorem fmS_1 (h0 : Nat) : (fm_1 h0).set 1 (.ref (h0 + 268 + 2)) = fm_2 h0 := rfl
def fm_3 (h0 : Nat) : List Value := [.ref (h0 + 268 + 1), .ref (h0 + 268 + 2), .ref (h0 + 268 + 3), .null, .null, .null, .null, .null, .int (xJ 0), .int (xJ 0), .int (xJ 0), .int (xJ 0), .int (xJ 0), .int (xJ 0), .int (xJ 0), .int (xJ 0), .int (xJ 0), .int (xJ 0), .null, .null, .null, .null, .null, .null, .null, .null, .null, .null, .null, .null, .null, .null, .null, .null, .int (xJ 0), .int (xJ 0), .int (xJ 0), .int (xJ 0), .null, .null, .null, .int (xJ 0), .int (xJ 0), .int (xJ 0), .int (xJ 0), .null, .null, .null, .int (xJ 0), .null, .null, .null, .null, .null, .null, .null, .null, .null, .int (xJ 0), .null, .null]
theorem fmL_2 (h0 : Nat) : 2 < (fm_2 h0).length := Nat.le_of_ble_eq_true rfl
theorem fmS_2 (h0 : Nat) : (fm_2 h0).set 2 (.ref (h0 + 268 + 3)) = fm_3 h0 := rfl
def fm_4 (h0 : Nat) : List Value := [.ref (h0 + 268 + 1), .ref (h0 + 268 + 2), .ref (h0 + 268 + 3), .ref (h0 + 268 + 4), .null, .null, .null, .null, .int (xJ 0), .int (xJ 0), .int (xJ 0), .int (xJ 0), .int (xJ 0), .int (xJ 0), .int (xJ 0), .int (xJ 0), .int (xJ 0), .int (xJ 0), .null, .null, .null, .null, .null, .null, .null, .null, .null, .null, .null, .null, .null, .null, .null, .null, .int (xJ 0), .int (xJ 0), .int (xJ 0), .int (xJ 0), .null, .null, .null, .int (xJ 0), .int (xJ 0), .int (xJ 0), .int (xJ 0), .null, .null, .null, .int (xJ 0), .null, .null, .null, .null, .null, .null, .null, .null, .null, .int (xJ 0), .null, .null]
theorem fmL_3 (h0 : Nat) : 3 < (fm_3 h0).length := Nat.le_of_ble_eq_true rfl
theorem fmS_3 (h0 : Nat) : (fm_3 h0).set 3 (.ref (h0 + 268 + 4)) = fm_4 h0 := rfl
def fm_5 (h0 : Nat) : List Value := [.ref (h0 + 268 + 1), .ref (h0 + 268 + 2), .ref (h0 + 268 + 3), .ref (h0 + 268 + 4), .ref (h0 + 268 + 5), .null, .null, .null, .int (xJ 0), .int (xJ 0), .int (xJ 0), .int (xJ 0), .int (xJ 0), .int (xJ 0), .int (xJ 0), .int (xJ 0), .int (xJ 0), .int (xJ 0), .null, .null, .null, .null, .null, .null, .null, .null, .null, .null, .null, .null, .null, .null, .null, .null, .int (xJ 0), .int (xJ 0), .int (xJ 0), .int (xJ 0), .null, .null, .null, .int (xJ 0), .int (xJ 0), .int (xJ 0), .int (xJ 0), .null, .null, .null, .int (xJ 0), .null, .null, .null, .null, .null, .null, .null, .null, .null, .int (xJ 0), .null, .null]
theorem fmL_4 (h0 : Nat) : 4 < (fm_4 h0).length := Nat.le_of_ble_eq_true rfl
theorem fmS_4 (h0 : Nat) : (fm_4 h0).set 4 (.ref (h0 + 268 + 5)) = fm_5 h0 := rfl
def fm_6 (h0 : Nat) : List Value := [.ref (h0 + 268 + 1), .ref (h0 + 268 + 2), .ref (h0 + 268 + 3), .ref (h0 + 268 + 4), .ref (h0 + 268 + 5), .ref (h0 + 268 + 6), .null, .null, .int (xJ 0), .int (xJ 0), .int (xJ 0), .int (xJ 0), .int (xJ 0), .int (xJ 0), .int (xJ 0), .int (xJ 0), .int (xJ 0), .int (xJ 0), .null, .null, .null, .null, .null, .null, .null, .null, .null, .null, .null, .null, .null, .null, .null, .null, .int (xJ 0), .int (xJ 0), .int (xJ 0), .int (xJ 0), .null, .null, .null, .int (xJ 0), .int (xJ 0), .int (xJ 0), .int (xJ 0), .null, .null, .null, .int (xJ 0), .null, .null, .null, .null, .null, .null, .null, .null, .null, .int (xJ 0), .null, .null]
theorem fmL_5 (h0 : Nat) : 5 < (fm_5 h0).length := Nat.le_of_ble_eq_true rfl
theorem fmS_5 (h0 : Nat) : (fm_5 h0).set 5 (.ref (h0 + 268 + 6)) = fm_6 h0 := rfl
def fm_7 (h0 : Nat) : List Value := [.ref (h0 + 268 + 1), .ref (h0 + 268 + 2), .ref (h0 + 268 + 3), .ref (h0 + 268 + 4), .ref (h0 + 268 + 5), .ref (h0 + 268 + 6), .ref (h0 + 268 + 7), .null, .int (xJ 0), .int (xJ 0), .int (xJ 0), .int (xJ 0), .int (xJ 0), .int (xJ 0), .int (xJ 0), .int (xJ 0), .int (xJ 0), .int (xJ 0), .null, .null, .null, .null, .null, .null, .null, .null, .null, .null, .null, .null, .null, .null, .null, .null, .int (xJ 0), .int (xJ 0), .int (xJ 0), .int (xJ 0), .null, .null, .null, .int (xJ 0), .int (xJ 0), .int (xJ 0), .int (xJ 0), .null, .null, .null, .int (xJ 0), .null, .null, .null, .null, .null, .null, .null, .null, .null, .int (xJ 0), .null, .null]
theorem fmL_6 (h0 : Nat) : 6 < (fm_6 h0).length := Nat.le_of_ble_eq_true rfl
theorem fmS_6 (h0 : Nat) : (fm_6 h0).set 6 (.ref (h0 + 268 + 7)) = fm_7 h0 := rfl
def fm_8 (h0 : Nat) : List Value := [.ref (h0 + 268 + 1), .ref (h0 + 268 + 2), .ref (h0 + 268 + 3), .ref (h0 + 268 + 4), .ref (h0 + 268 + 5), .ref (h0 + 268 + 6), .ref (h0 + 268 + 7), .ref (h0 + 268 + 8), .int (xJ 0), .int (xJ 0), .int (xJ 0), .int (xJ 0), .int (xJ 0), .int (xJ 0), .int (xJ 0), .int (xJ 0), .int (xJ 0), .int (xJ 0), .null, .null, .null, .null, .null, .null, .null, .null, .null, .null, .null, .null, .null, .null, .null, .null, .int (xJ 0), .int (xJ 0), .int (xJ 0), .int (xJ 0), .null, .null, .null, .int (xJ 0), .int (xJ 0), .int (xJ 0), .int (xJ 0), .null, .null, .null, .int (xJ 0), .null, .null, .null, .null, .null, .null, .null, .null, .null, .int (xJ 0), .null, .null]
theorem fmL_7 (h0 : Nat) : 7 < (fm_7 h0).length := Nat.le_of_ble_eq_true rfl
theorem fmS_7 (h0 : Nat) : (fm_7 h0).set 7 (.ref (h0 + 268 + 8)) = fm_8 h0 := rfl
def fm_9 (h0 : Nat) : List Value := [.ref (h0 + 268 + 1), .ref (h0 + 268 + 2), .ref (h0 + 268 + 3), .ref (h0 + 268 + 4), .ref (h0 + 268 + 5), .ref (h0 + 268 + 6), .ref (h0 + 268 + 7), .ref (h0 + 268 + 8), .int (xJ 0), .int (xJ 0), .int (xJ 0), .int (xJ 0), .int (xJ 0), .int (xJ 0), .int (xJ 0), .int (xJ 0), .int (xJ 0), .int (xJ 0), .ref (h0 + 268 + 9), .null, .null, .null, .null, .null, .null, .null, .null, .null, .null, .null, .null, .null, .null, .null, .int (xJ 0), .int (xJ 0), .int (xJ 0), .int (xJ 0), .null, .null, .null, .int (xJ 0), .int (xJ 0), .int (xJ 0), .int (xJ 0), .null, .null, .null, .int (xJ 0), .null, .null, .null, .null, .null, .null, .null, .null, .null, .int (xJ 0), .null, .null]
theorem fmL_8 (h0 : Nat) : 18 < (fm_8 h0).length := Nat.le_of_ble_eq_true rfl
theorem fmS_8 (h0 : Nat) : (fm_8 h0).set 18 (.ref (h0 + 268 + 9)) = fm_9 h0 := rfl
def fm_10 (h0 : Nat) : List Value := [.ref (h0 + 268 + 1), .ref (h0 + 268 + 2), .ref (h0 + 268 + 3), .ref (h0 + 268 + 4), .ref (h0 + 268 + 5), .ref (h0 + 268 + 6), .ref (h0 + 268 + 7), .ref (h0 + 268 + 8), .int (xJ 0), .int (xJ 0), .int (xJ 0), .int (xJ 0), .int (xJ 0), .int (xJ 0), .int (xJ 0), .int (xJ 0), .int (xJ 0), .int (xJ 0), .ref (h0 + 268 + 9), .ref (h0 + 268 + 10), .null, .null, .null, .null, .null, .null, .null, .null, .null, .null, .null, .null, .null, .null, .int (xJ 0), .int (xJ 0), .int (xJ 0), .int (xJ 0), .null, .null, .null, .int (xJ 0), .int (xJ 0), .int (xJ 0), .int (xJ 0), .null, .null, .null, .int (xJ 0), .null, .null, .null, .null, .null, .null, .null, .null, .null, .int (xJ 0), .null, .null]
theorem fmL_9 (h0 : Nat) : 19 < (fm_9 h0).length := Nat.le_of_ble_eq_true rfl
theorem fmS_9 (h0 : Nat) : (fm_9 h0).set 19 (.ref (h0 + 268 + 10)) = fm_10 h0 := rfl
def fm_11 (h0 : Nat) : List Value := [.ref (h0 + 268 + 1), .ref (h0 + 268 + 2), .ref (h0 + 268 + 3), .ref (h0 + 268 + 4), .ref (h0 + 268 + 5), .ref (h0 + 268 + 6), .ref (h0 + 268 + 7), .ref (h0 + 268 + 8), .int (xJ 0), .int (xJ 0), .int (xJ 0), .int (xJ 0), .int (xJ 0), .int (xJ 0), .int (xJ 0), .int (xJ 0), .int (xJ 0), .int (xJ 0), .ref (h0 + 268 + 9), .ref (h0 + 268 + 10), .ref (h0 + 268 + 11), .null, .null, .null, .null, .null, .null, .null, .null, .null, .null, .null, .null, .null, .int (xJ 0), .int (xJ 0), .int (xJ 0), .int (xJ 0), .null, .null, .null, .int (xJ 0), .int (xJ 0), .int (xJ 0), .int (xJ 0), .null, .null, .null, .int (xJ 0), .null, .null, .null, .null, .null, .null, .null, .null, .null, .int (xJ 0), .null, .null]
theorem fmL_10 (h0 : Nat) : 20 < (fm_10 h0).length := Nat.le_of_ble_eq_true rfl
theorem fmS_10 (h0 : Nat) : (fm_10 h0).set 20 (.ref (h0 + 268 + 11)) = fm_11 h0 := rfl
def fm_12 (h0 : Nat) : List Value := [.ref (h0 + 268 + 1), .ref (h0 + 268 + 2), .ref (h0 + 268 + 3), .ref (h0 + 268 + 4), .ref (h0 + 268 + 5), .ref (h0 + 268 + 6), .ref (h0 + 268 + 7), .ref (h0 + 268 + 8), .int (xJ 0), .int (xJ 0), .int (xJ 0), .int (xJ 0), .int (xJ 0), .int (xJ 0), .int (xJ 0), .int (xJ 0), .int (xJ 0), .int (xJ 0), .ref (h0 + 268 + 9), .ref (h0 + 268 + 10), .ref (h0 + 268 + 11), .ref (h0 + 268 + 12), .null, .null, .null, .null, .null, .null, .null, .null, .null, .null, .null, .null, .int (xJ 0), .int (xJ 0), .int (xJ 0), .int (xJ 0), .null, .null, .null, .int (xJ 0), .int (xJ 0), .int (xJ 0), .int (xJ 0), .null, .null, .null, .int (xJ 0), .null, .null, .null, .null, .null, .null, .null, .null, .null, .int (xJ 0), .null, .null]
theorem fmL_11 (h0 : Nat) : 21 < (fm_11 h0).length := Nat.le_of_ble_eq_true rfl
theorem fmS_11 (h0 : Nat) : (fm_11 h0).set 21 (.ref (h0 + 268 + 12)) = fm_12 h0 := rfl
def fm_13 (h0 : Nat) : List Value := [.ref (h0 + 268 + 1), .ref (h0 + 268 + 2), .ref (h0 + 268 + 3), .ref (h0 + 268 + 4), .ref (h0 + 268 + 5), .ref (h0 + 268 + 6), .ref (h0 + 268 + 7), .ref (h0 + 268 + 8), .int (xJ 0), .int (xJ 0), .int (xJ 0), .int (xJ 0), .int (xJ 0), .int (xJ 0), .int (xJ 0), .int (xJ 0), .int (xJ 0), .int (xJ 0), .ref (h0 + 268 + 9), .ref (h0 + 268 + 10), .ref (h0 + 268 + 11), .ref (h0 + 268 + 12), .ref (h0 + 268 + 13), .null, .null, .null, .null, .null, .null, .null, .null, .null, .null, .null, .int (xJ 0), .int (xJ 0), .int (xJ 0), .int (xJ 0), .null, .null, .null, .int (xJ 0), .int (xJ 0), .int (xJ 0), .int (xJ 0), .null, .null, .null, .int (xJ 0), .null, .null, .null, .null, .null, .null, .null, .null, .null, .int (xJ 0), .null, .null]
theorem fmL_12 (h0 : Nat) : 22 < (fm_12 h0).length := Nat.le_of_ble_eq_true rfl
theorem fmS_12 (h0 : Nat) : (fm_12 h0).set 22 (.ref (h0 + 268 + 13)) = fm_13 h0 := rfl
def fm_14 (h0 : Nat) : List Value := [.ref (h0 + 268 + 1), .ref (h0 + 268 + 2), .ref (h0 + 268 + 3), .ref (h0 + 268 + 4), .ref (h0 + 268 + 5), .ref (h0 + 268 + 6), .ref (h0 + 268 + 7), .ref (h0 + 268 + 8), .int (xJ 0), .int (xJ 0), .int (xJ 0), .int (xJ 0), .int (xJ 0), .int (xJ 0), .int (xJ 0), .int (xJ 0), .int (xJ 0), .int (xJ 0), .ref (h0 + 268 + 9), .ref (h0 + 268 + 10), .ref (h0 + 268 + 11), .ref (h0 + 268 + 12), .ref (h0 + 268 + 13), .ref (h0 + 268 + 14), .null, .null, .null, .null, .null, .null, .null, .null, .null, .null, .int (xJ 0), .int (xJ 0), .int (xJ 0), .int (xJ 0), .null, .null, .null, .int (xJ 0), .int (xJ 0), .int (xJ 0), .int (xJ 0), .null, .null, .null, .int (xJ 0), .null, .null, .null, .null, .null, .null, .null, .null, .null, .int (xJ 0), .null, .null]
theorem fmL_13 (h0 : Nat) : 23 < (fm_13 h0).length := Nat.le_of_ble_eq_true rfl
theorem fmS_13 (h0 : Nat) : (fm_13 h0).set 23 (.ref (h0 + 268 + 14)) = fm_14 h0 := rfl
def fm_15 (h0 : Nat) : List Value := [.ref (h0 + 268 + 1), .ref (h0 + 268 + 2), .ref (h0 + 268 + 3), .ref (h0 + 268 + 4), .ref (h0 + 268 + 5), .ref (h0 + 268 + 6), .ref (h0 + 268 + 7), .ref (h0 + 268 + 8), .int (xJ 0), .int (xJ 0), .int (xJ 0), .int (xJ 0), .int (xJ 0), .int (xJ 0), .int (xJ 0), .int (xJ 0), .int (xJ 0), .int (xJ 0), .ref (h0 + 268 + 9), .ref (h0 + 268 + 10), .ref (h0 + 268 + 11), .ref (h0 + 268 + 12), .ref (h0 + 268 + 13), .ref (h0 + 268 + 14), .ref (h0 + 268 + 15), .null, .null, .null, .null, .null, .null, .null, .null, .null, .int (xJ 0), .int (xJ 0), .int (xJ 0), .int (xJ 0), .null, .null, .null, .int (xJ 0), .int (xJ 0), .int (xJ 0), .int (xJ 0), .null, .null, .null, .int (xJ 0), .null, .null, .null, .null, .null, .null, .null, .null, .null, .int (xJ 0), .null, .null]
theorem fmL_14 (h0 : Nat) : 24 < (fm_14 h0).length := Nat.le_of_ble_eq_true rfl
theorem fmS_14 (h0 : Nat) : (fm_14 h0).set 24 (.ref (h0 + 268 + 15)) = fm_15 h0 := rfl
def fm_16 (h0 : Nat) : List Value := [.ref (h0 + 268 + 1), .ref (h0 + 268 + 2), .ref (h0 + 268 + 3), .ref (h0 + 268 + 4), .ref (h0 + 268 + 5), .ref (h0 + 268 + 6), .ref (h0 + 268 + 7), .ref (h0 + 268 + 8), .int (xJ 0), .int (xJ 0), .int (xJ 0), .int (xJ 0), .int (xJ 0), .int (xJ 0), .int (xJ 0), .int (xJ 0), .int (xJ 0), .int (xJ 0), .ref (h0 + 268 + 9), .ref (h0 + 268 + 10), .ref (h0 + 268 + 11), .ref (h0 + 268 + 12), .ref (h0 + 268 + 13), .ref (h0 + 268 + 14), .ref (h0 + 268 + 15), .ref (h0 + 268 + 16), .null, .null, .null, .null, .null, .null, .null, .null, .int (xJ 0), .int (xJ 0), .int (xJ 0), .int (xJ 0), .null, .null, .null, .int (xJ 0), .int (xJ 0), .int (xJ 0), .int (xJ 0), .null, .null, .null, .int (xJ 0), .null, .null, .null, .null, .null, .null, .null, .null, .null, .int (xJ 0), .null, .null]
theorem fmL_15 (h0 : Nat) : 25 < (fm_15 h0).length := Nat.le_of_ble_eq_true rfl
theorem fmS_15 (h0 : Nat) : (fm_15 h0).set 25 (.ref (h0 + 268 + 16)) = fm_16 h0 := rfl
def fm_17 (h0 : Nat) : List Value := [.ref (h0 + 268 + 1), .ref (h0 + 268 + 2), .ref (h0 + 268 + 3), .ref (h0 + 268 + 4), .ref (h0 + 268 + 5), .ref (h0 + 268 + 6), .ref (h0 + 268 + 7), .ref (h0 + 268 + 8), .int (xJ 0), .int (xJ 0), .int (xJ 0), .int (xJ 0), .int (xJ 0), .int (xJ 0), .int (xJ 0), .int (xJ 0), .int (xJ 0), .int (xJ 0), .ref (h0 + 268 + 9), .ref (h0 + 268 + 10), .ref (h0 + 268 + 11), .ref (h0 + 268 + 12), .ref (h0 + 268 + 13), .ref (h0 + 268 + 14), .ref (h0 + 268 + 15), .ref (h0 + 268 + 16), .ref (h0 + 268 + 17), .null, .null, .null, .null, .null, .null, .null, .int (xJ 0), .int (xJ 0), .int (xJ 0), .int (xJ 0), .null, .null, .null, .int (xJ 0), .int (xJ 0), .int (xJ 0), .int (xJ 0), .null, .null, .null, .int (xJ 0), .null, .null, .null, .null, .null, .null, .null, .null, .null, .int (xJ 0), .null, .null]
theorem fmL_16 (h0 : Nat) : 26 < (fm_16 h0).length := Nat.le_of_ble_eq_true rfl
theorem fmS_16 (h0 : Nat) : (fm_16 h0).set 26 (.ref (h0 + 268 + 17)) = fm_17 h0 := rfl
def fm_18 (h0 : Nat) : List Value := [.ref (h0 + 268 + 1), .ref (h0 + 268 + 2), .ref (h0 + 268 + 3), .ref (h0 + 268 + 4), .ref (h0 + 268 + 5), .ref (h0 + 268 + 6), .ref (h0 + 268 + 7), .ref (h0 + 268 + 8), .int (xJ 0), .int (xJ 0), .int (xJ 0), .int (xJ 0), .int (xJ 0), .int (xJ 0), .int (xJ 0), .int (xJ 0), .int (xJ 0), .int (xJ 0), .ref (h0 + 268 + 9), .ref (h0 + 268 + 10), .ref (h0 + 268 + 11), .ref (h0 + 268 + 12), .ref (h0 + 268 + 13), .ref (h0 + 268 + 14), .ref (h0 + 268 + 15), .ref (h0 + 268 + 16), .ref (h0 + 268 + 17), .ref (h0 + 268 + 18), .null, .null, .null, .null, .null, .null, .int (xJ 0), .int (xJ 0), .int (xJ 0), .int (xJ 0), .null, .null, .null, .int (xJ 0), .int (xJ 0), .int (xJ 0), .int (xJ 0), .null, .null, .null, .int (xJ 0), .null, .null, .null, .null, .null, .null, .null, .null, .null, .int (xJ 0), .null, .null]
theorem fmL_17 (h0 : Nat) : 27 < (fm_17 h0).length := Nat.le_of_ble_eq_true rfl
theorem fmS_17 (h0 : Nat) : (fm_17 h0).set 27 (.ref (h0 + 268 + 18)) = fm_18 h0 := rfl
def fm_19 (h0 : Nat) : List Value := [.ref (h0 + 268 + 1), .ref (h0 + 268 + 2), .ref (h0 + 268 + 3), .ref (h0 + 268 + 4), .ref (h0 + 268 + 5), .ref (h0 + 268 + 6), .ref (h0 + 268 + 7), .ref (h0 + 268 + 8), .int (xJ 0), .int (xJ 0), .int (xJ 0), .int (xJ 0), .int (xJ 0), .int (xJ 0), .int (xJ 0), .int (xJ 0), .int (xJ 0), .int (xJ 0), .ref (h0 + 268 + 9), .ref (h0 + 268 + 10), .ref (h0 + 268 + 11), .ref (h0 + 268 + 12), .ref (h0 + 268 + 13), .ref (h0 + 268 + 14), .ref (h0 + 268 + 15), .ref (h0 + 268 + 16), .ref (h0 + 268 + 17), .ref (h0 + 268 + 18), .ref (h0 + 268 + 19), .null, .null, .null, .null, .null, .int (xJ 0), .int (xJ 0), .int (xJ 0), .int (xJ 0), .null, .null, .null, .int (xJ 0), .int (xJ 0), .int (xJ 0), .int (xJ 0), .null, .null, .null, .int (xJ 0), .null, .null, .null, .null, .null, .null, .null, .null, .null, .int (xJ 0), .null, .null]
theorem fmL_18 (h0 : Nat) : 28 < (fm_18 h0).length := Nat.le_of_ble_eq_true rfl
theorem fmS_18 (h0 : Nat) : (fm_18 h0).set 28 (.ref (h0 + 268 + 19)) = fm_19 h0 := rfl
def fm_20 (h0 : Nat) : List Value := [.ref (h0 + 268 + 1), .ref (h0 + 268 + 2), .ref (h0 + 268 + 3), .ref (h0 + 268 + 4), .ref (h0 + 268 + 5), .ref (h0 + 268 + 6), .ref (h0 + 268 + 7), .ref (h0 + 268 + 8), .int (xJ 0), .int (xJ 0), .int (xJ 0), .int (xJ 0), .int (xJ 0), .int (xJ 0), .int (xJ 0), .int (xJ 0), .int (xJ 0), .int (xJ 0), .ref (h0 + 268 + 9), .ref (h0 + 268 + 10), .ref (h0 + 268 + 11), .ref (h0 + 268 + 12), .ref (h0 + 268 + 13), .ref (h0 + 268 + 14), .ref (h0 + 268 + 15), .ref (h0 + 268 + 16), .ref (h0 + 268 + 17), .ref (h0 + 268 + 18), .ref (h0 + 268 + 19), .ref (h0 + 268 + 20), .null, .null, .null, .null, .int (xJ 0), .int (xJ 0), .int (xJ 0), .int (xJ 0), .null, .null, .null, .int (xJ 0), .int (xJ 0), .int (xJ 0), .int (xJ 0), .null, .null, .null, .int (xJ 0), .null, .null, .null, .null, .null, .null, .null, .null, .null, .int (xJ 0), .null, .null]
theorem fmL_19 (h0 : Nat) : 29 < (fm_19 h0).length := Nat.le_of_ble_eq_true rfl
theorem fmS_19 (h0 : Nat) : (fm_19 h0).set 29 (.ref (h0 + 268 + 20)) = fm_20 h0 := rfl
def fm_21 (h0 : Nat) : List Value := [.ref (h0 + 268 + 1), .ref (h0 + 268 + 2), .ref (h0 + 268 + 3), .ref (h0 + 268 + 4), .ref (h0 + 268 + 5), .ref (h0 + 268 + 6), .ref (h0 + 268 + 7), .ref (h0 + 268 + 8), .int (xJ 0), .int (xJ 0), .int (xJ 0), .int (xJ 0), .int (xJ 0), .int (xJ 0), .int (xJ 0), .int (xJ 0), .int (xJ 0), .int (xJ 0), .ref (h0 + 268 + 9), .ref (h0 + 268 + 10), .ref (h0 + 268 + 11), .ref (h0 + 268 + 12), .ref (h0 + 268 + 13), .ref (h0 + 268 + 14), .ref (h0 + 268 + 15), .ref (h0 + 268 + 16), .ref (h0 + 268 + 17), .ref (h0 + 268 + 18), .ref (h0 + 268 + 19), .ref (h0 + 268 + 20), .ref (h0 + 268 + 21), .null, .null, .null, .int (xJ 0), .int (xJ 0), .int (xJ 0), .int (xJ 0), .null, .null, .null, .int (xJ 0), .int (xJ 0), .int (xJ 0), .int (xJ 0), .null, .null, .null, .int (xJ 0), .null, .null, .null, .null, .null, .null, .null, .null, .null, .int (xJ 0), .null, .null]
theorem fmL_20 (h0 : Nat) : 30 < (fm_20 h0).length := Nat.le_of_ble_eq_true rfl
theorem fmS_20 (h0 : Nat) : (fm_20 h0).set 30 (.ref (h0 + 268 + 21)) = fm_21 h0 := rfl
def fm_22 (h0 : Nat) : List Value := [.ref (h0 + 268 + 1), .ref (h0 + 268 + 2), .ref (h0 + 268 + 3), .ref (h0 + 268 + 4), .ref (h0 + 268 + 5), .ref (h0 + 268 + 6), .ref (h0 + 268 + 7), .ref (h0 + 268 + 8), .int (xJ 0), .int (xJ 0), .int (xJ 0), .int (xJ 0), .int (xJ 0), .int (xJ 0), .int (xJ 0), .int (xJ 0), .int (xJ 0), .int (xJ 0), .ref (h0 + 268 + 9), .ref (h0 + 268 + 10), .ref (h0 + 268 + 11), .ref (h0 + 268 + 12), .ref (h0 + 268 + 13), .ref (h0 + 268 + 14), .ref (h0 + 268 + 15), .ref (h0 + 268 + 16), .ref (h0 + 268 + 17), .ref (h0 + 268 + 18), .ref (h0 + 268 + 19), .ref (h0 + 268 + 20), .ref (h0 + 268 + 21), .ref (h0 + 268 + 22), .null, .null, .int (xJ 0), .int (xJ 0), .int (xJ 0), .int (xJ 0), .null, .null, .null, .int (xJ 0), .int (xJ 0), .int (xJ 0), .int (xJ 0), .null, .null, .null, .int (xJ 0), .null, .null, .null, .null, .null, .null, .null, .null, .null, .int (xJ 0), .null, .null]
theorem fmL_21 (h0 : Nat) : 31 < (fm_21 h0).length := Nat.le_of_ble_eq_true rfl
theorem fmS_21 (h0 : Nat) : (fm_21 h0).set 31 (.ref (h0 + 268 + 22)) = fm_22 h0 := rfl
def fm_23 (h0 : Nat) : List Value := [.ref (h0 + 268 + 1), .ref (h0 + 268 + 2), .ref (h0 + 268 + 3), .ref (h0 + 268 + 4), .ref (h0 + 268 + 5), .ref (h0 + 268 + 6), .ref (h0 + 268 + 7), .ref (h0 + 268 + 8), .int (xJ 0), .int (xJ 0), .int (xJ 0), .int (xJ 0), .int (xJ 0), .int (xJ 0), .int (xJ 0), .int (xJ 0), .int (xJ 0), .int (xJ 0), .ref (h0 + 268 + 9), .ref (h0 + 268 + 10), .ref (h0 + 268 + 11), .ref (h0 + 268 + 12), .ref (h0 + 268 + 13), .ref (h0 + 268 + 14), .ref (h0 + 268 + 15), .ref (h0 + 268 + 16), .ref (h0 + 268 + 17), .ref (h0 + 268 + 18), .ref (h0 + 268 + 19), .ref (h0 + 268 + 20), .ref (h0 + 268 + 21), .ref (h0 + 268 + 22), .ref (h0 + 268 + 23), .null, .int (xJ 0), .int (xJ 0), .int (xJ 0), .int (xJ 0), .null, .null, .null, .int (xJ 0), .int (xJ 0), .int (xJ 0), .int (xJ 0), .null, .null, .null, .int (xJ 0), .null, .null, .null, .null, .null, .null, .null, .null, .null, .int (xJ 0), .null, .null]
theorem fmL_22 (h0 : Nat) : 32 < (fm_22 h0).length := Nat.le_of_ble_eq_true rfl
theorem fmS_22 (h0 : Nat) : (fm_22 h0).set 32 (.ref (h0 + 268 + 23)) = fm_23 h0 := rfl
def fm_24 (h0 : Nat) : List Value := [.ref (h0 + 268 + 1), .ref (h0 + 268 + 2), .ref (h0 + 268 + 3), .ref (h0 + 268 + 4), .ref (h0 + 268 + 5), .ref (h0 + 268 + 6), .ref (h0 + 268 + 7), .ref (h0 + 268 + 8), .int (xJ 0), .int (xJ 0), .int (xJ 0), .int (xJ 0), .int (xJ 0), .int (xJ 0), .int (xJ 0), .int (xJ 0), .int (xJ 0), .int (xJ 0), .ref (h0 + 268 + 9), .ref (h0 + 268 + 10), .ref (h0 + 268 + 11), .ref (h0 + 268 + 12), .ref (h0 + 268 + 13), .ref (h0 + 268 + 14), .ref (h0 + 268 + 15), .ref (h0 + 268 + 16), .ref (h0 + 268 + 17), .ref (h0 + 268 + 18), .ref (h0 + 268 + 19), .ref (h0 + 268 + 20), .ref (h0 + 268 + 21), .ref (h0 + 268 + 22), .ref (h0 + 268 + 23), .ref (h0 + 268 + 24), .int (xJ 0), .int (xJ 0), .int (xJ 0), .int (xJ 0), .null, .null, .null, .int (xJ 0), .int (xJ 0), .int (xJ 0), .int (xJ 0), .null, .null, .null, .int (xJ 0), .null, .null, .null, .null, .null, .null, .null, .null, .null, .int (xJ 0), .null, .null]
theorem fmL_23 (h0 : Nat) : 33 < (fm_23 h0).length := Nat.le_of_ble_eq_true rfl
theorem fmS_23 (h0 : Nat) : (fm_23 h0).set 33 (.ref (h0 + 268 + 24)) = fm_24 h0 := rfl
def fm_25 (h0 : Nat) : List Value := [.ref (h0 + 268 + 1), .ref (h0 + 268 + 2), .ref (h0 + 268 + 3), .ref (h0 + 268 + 4), .ref (h0 + 268 + 5), .ref (h0 + 268 + 6), .ref (h0 + 268 + 7), .ref (h0 + 268 + 8), .int (xJ 0), .int (xJ 0), .int (xJ 0), .int (xJ 0), .int (xJ 0), .int (xJ 0), .int (xJ 0), .int (xJ 0), .int (xJ 0), .int (xJ 0), .ref (h0 + 268 + 9), .ref (h0 + 268 + 10), .ref (h0 + 268 + 11), .ref (h0 + 268 + 12), .ref (h0 + 268 + 13), .ref (h0 + 268 + 14), .ref (h0 + 268 + 15), .ref (h0 + 268 + 16), .ref (h0 + 268 + 17), .ref (h0 + 268 + 18), .ref (h0 + 268 + 19), .ref (h0 + 268 + 20), .ref (h0 + 268 + 21), .ref (h0 + 268 + 22), .ref (h0 + 268 + 23), .ref (h0 + 268 + 24), .int (xJ 0), .int (xJ 0), .int (xJ 0), .int (xJ 0), .ref (h0 + 268 + 25), .null, .null, .int (xJ 0), .int (xJ 0), .int (xJ 0), .int (xJ 0), .null, .null, .null, .int (xJ 0), .null, .null, .null, .null, .null, .null, .null, .null, .null, .int (xJ 0), .null, .null]
theorem fmL_24 (h0 : Nat) : 38 < (fm_24 h0).length := Nat.le_of_ble_eq_true rfl
theorem fmS_24 (h0 : Nat) : (fm_24 h0).set 38 (.ref (h0 + 268 + 25)) = fm_25 h0 := rfl
def fm_26 (h0 : Nat) : List Value := [.ref (h0 + 268 + 1), .ref (h0 + 268 + 2), .ref (h0 + 268 + 3), .ref (h0 + 268 + 4), .ref (h0 + 268 + 5), .ref (h0 + 268 + 6), .ref (h0 + 268 + 7), .ref (h0 + 268 + 8), .int (xJ 0), .int (xJ 0), .int (xJ 0), .int (xJ 0), .int (xJ 0), .int (xJ 0), .int (xJ 0), .int (xJ 0), .int (xJ 0), .int (xJ 0), .ref (h0 + 268 + 9), .ref (h0 + 268 + 10), .ref (h0 + 268 + 11), .ref (h0 + 268 + 12), .ref (h0 + 268 + 13), .ref (h0 + 268 + 14), .ref (h0 + 268 + 15), .ref (h0 + 268 + 16), .ref (h0 + 268 + 17), .ref (h0 + 268 + 18), .ref (h0 + 268 + 19), .ref (h0 + 268 + 20), .ref (h0 + 268 + 21), .ref (h0 + 268 + 22), .ref (h0 + 268 + 23), .ref (h0 + 268 + 24), .int (xJ 0), .int (xJ 0), .int (xJ 0), .int (xJ 0), .ref (h0 + 268 + 25), .ref (h0 + 268 + 26), .null, .int (xJ 0), .int (xJ 0), .int (xJ 0), .int (xJ 0), .null, .null, .null, .int (xJ 0), .null, .null, .null, .null, .null, .null, .null, .null, .null, .int (xJ 0), .null, .null]
theorem fmL_25 (h0 : Nat) : 39 < (fm_25 h0).length := Nat.le_of_ble_eq_true rfl
theorem fmS_25 (h0 : Nat) : (fm_25 h0).set 39 (.ref (h0 + 268 + 26)) = fm_26 h0 := rfl
def fm_27 (h0 : Nat) : List Value := [.ref (h0 + 268 + 1), .ref (h0 + 268 + 2), .ref (h0 + 268 + 3), .ref (h0 + 268 + 4), .ref (h0 + 268 + 5), .ref (h0 + 268 + 6), .ref (h0 + 268 + 7), .ref (h0 + 268 + 8), .int (xJ 0), .int (xJ 0), .int (xJ 0), .int (xJ 0), .int (xJ 0), .int (xJ 0), .int (xJ 0), .int (xJ 0), .int (xJ 0), .int (xJ 0), .ref (h0 + 268 + 9), .ref (h0 + 268 + 10), .ref (h0 + 268 + 11), .ref (h0 + 268 + 12), .ref (h0 + 268 + 13), .ref (h0 + 268 + 14), .ref (h0 + 268 + 15), .ref (h0 + 268 + 16), .ref (h0 + 268 + 17), .ref (h0 + 268 + 18), .ref (h0 + 268 + 19), .ref (h0 + 268 + 20), .ref (h0 + 268 + 21), .ref (h0 + 268 + 22), .ref (h0 + 268 + 23), .ref (h0 + 268 + 24), .int (xJ 0), .int (xJ 0), .int (xJ 0), .int (xJ 0), .ref (h0 + 268 + 25), .ref (h0 + 268 + 26), .ref (h0 + 268 + 27), .int (xJ 0), .int (xJ 0), .int (xJ 0), .int (xJ 0), .null, .null, .null, .int (xJ 0), .null, .null, .null, .null, .null, .null, .null, .null, .null, .int (xJ 0), .null, .null]
theorem fmL_26 (h0 : Nat) : 40 < (fm_26 h0).length := Nat.le_of_ble_eq_true rfl
theorem fmS_26 (h0 : Nat) : (fm_26 h0).set 40 (.ref (h0 + 268 + 27)) = fm_27 h0 := rfl
def fm_28 (h0 : Nat) : List Value := [.ref (h0 + 268 + 1), .ref (h0 + 268 + 2), .ref (h0 + 268 + 3), .ref (h0 + 268 + 4), .ref (h0 + 268 + 5), .ref (h0 + 268 + 6), .ref (h0 + 268 + 7), .ref (h0 + 268 + 8), .int (xJ 0), .int (xJ 0), .int (xJ 0), .int (xJ 0), .int (xJ 0), .int (xJ 0), .int (xJ 0), .int (xJ 0), .int (xJ 0), .int (xJ 0), .ref (h0 + 268 + 9), .ref (h0 + 268 + 10), .ref (h0 + 268 + 11), .ref (h0 + 268 + 12), .ref (h0 + 268 + 13), .ref (h0 + 268 + 14), .ref (h0 + 268 + 15), .ref (h0 + 268 + 16), .ref (h0 + 268 + 17), .ref (h0 + 268 + 18), .ref (h0 + 268 + 19), .ref (h0 + 268 + 20), .ref (h0 + 268 + 21), .ref (h0 + 268 + 22), .ref (h0 + 268 + 23), .ref (h0 + 268 + 24), .int (xJ 0), .int (xJ 0), .int (xJ 0), .int (xJ 0), .ref (h0 + 268 + 25), .ref (h0 + 268 + 26), .ref (h0 + 268 + 27), .int (xJ 0), .int (xJ 0), .int (xJ 0), .int (xJ 0), .ref (h0 + 268 + 28), .null, .null, .int (xJ 0), .null, .null, .null, .null, .null, .null, .null, .null, .null, .int (xJ 0), .null, .null]
theorem fmL_27 (h0 : Nat) : 45 < (fm_27 h0).length := Nat.le_of_ble_eq_true rfl
theorem fmS_27 (h0 : Nat) : (fm_27 h0).set 45 (.ref (h0 + 268 + 28)) = fm_28 h0 := rfl
def fm_29 (h0 : Nat) : List Value := [.ref (h0 + 268 + 1), .ref (h0 + 268 + 2), .ref (h0 + 268 + 3), .ref (h0 + 268 + 4), .ref (h0 + 268 + 5), .ref (h0 + 268 + 6), .ref (h0 + 268 + 7), .ref (h0 + 268 + 8), .int (xJ 0), .int (xJ 0), .int (xJ 0), .int (xJ 0), .int (xJ 0), .int (xJ 0), .int (xJ 0), .int (xJ 0), .int (xJ 0), .int (xJ 0), .ref (h0 + 268 + 9), .ref (h0 + 268 + 10), .ref (h0 + 268 + 11), .ref (h0 + 268 + 12), .ref (h0 + 268 + 13), .ref (h0 + 268 + 14), .ref (h0 + 268 + 15), .ref (h0 + 268 + 16), .ref (h0 + 268 + 17), .ref (h0 + 268 + 18), .ref (h0 + 268 + 19), .ref (h0 + 268 + 20), .ref (h0 + 268 + 21), .ref (h0 + 268 + 22), .ref (h0 + 268 + 23), .ref (h0 + 268 + 24), .int (xJ 0), .int (xJ 0), .int (xJ 0), .int (xJ 0), .ref (h0 + 268 + 25), .ref (h0 + 268 + 26), .ref (h0 + 268 + 27), .int (xJ 0), .int (xJ 0), .int (xJ 0), .int (xJ 0), .ref (h0 + 268 + 28), .ref (h0 + 268 + 29), .null, .int (xJ 0), .null, .null, .null, .null, .null, .null, .null, .null, .null, .int (xJ 0), .null, .null]
theorem fmL_28 (h0 : Nat) : 46 < (fm_28 h0).length := Nat.le_of_ble_eq_true rfl
theorem fmS_28 (h0 : Nat) : (fm_28 h0).set 46 (.ref (h0 + 268 + 29)) = fm_29 h0 := rfl
def fm_30 (h0 : Nat) : List Value := [.ref (h0 + 268 + 1), .ref (h0 + 268 + 2), .ref (h0 + 268 + 3), .ref (h0 + 268 + 4), .ref (h0 + 268 + 5), .ref (h0 + 268 + 6), .ref (h0 + 268 + 7), .ref (h0 + 268 + 8), .int (xJ 0), .int (xJ 0), .int (xJ 0), .int (xJ 0), .int (xJ 0), .int (xJ 0), .int (xJ 0), .int (xJ 0), .int (xJ 0), .int (xJ 0), .ref (h0 + 268 + 9), .ref (h0 + 268 + 10), .ref (h0 + 268 + 11), .ref (h0 + 268 + 12), .ref (h0 + 268 + 13), .ref (h0 + 268 + 14), .ref (h0 + 268 + 15), .ref (h0 + 268 + 16), .ref (h0 + 268 + 17), .ref (h0 + 268 + 18), .ref (h0 + 268 + 19), .ref (h0 + 268 + 20), .ref (h0 + 268 + 21), .ref (h0 + 268 + 22), .ref (h0 + 268 + 23), .ref (h0 + 268 + 24), .int (xJ 0), .int (xJ 0), .int (xJ 0), .int (xJ 0), .ref (h0 + 268 + 25), .ref (h0 + 268 + 26), .ref (h0 + 268 + 27), .int (xJ 0), .int (xJ 0), .int (xJ 0), .int (xJ 0), .ref (h0 + 268 + 28), .ref (h0 + 268 + 29), .ref (h0 + 268 + 30), .int (xJ 0), .null, .null, .null, .null, .null, .null, .null, .null, .null, .int (xJ 0), .null, .null]
theorem fmL_29 (h0 : Nat) : 47 < (fm_29 h0).length := Nat.le_of_ble_eq_true rfl
theorem fmS_29 (h0 : Nat) : (fm_29 h0).set 47 (.ref (h0 + 268 + 30)) = fm_30 h0 := rfl
def fm_31 (h0 : Nat) : List Value := [.ref (h0 + 268 + 1), .ref (h0 + 268 + 2), .ref (h0 + 268 + 3), .ref (h0 + 268 + 4), .ref (h0 + 268 + 5), .ref (h0 + 268 + 6), .ref (h0 + 268 + 7), .ref (h0 + 268 + 8), .int (xJ 0), .int (xJ 0), .int (xJ 0), .int (xJ 0), .int (xJ 0), .int (xJ 0), .int (xJ 0), .int (xJ 0), .int (xJ 0), .int (xJ 0), .ref (h0 + 268 + 9), .ref (h0 + 268 + 10), .ref (h0 + 268 + 11), .ref (h0 + 268 + 12), .ref (h0 + 268 + 13), .ref (h0 + 268 + 14), .ref (h0 + 268 + 15), .ref (h0 + 268 + 16), .ref (h0 + 268 + 17), .ref (h0 + 268 + 18), .ref (h0 + 268 + 19), .ref (h0 + 268 + 20), .ref (h0 + 268 + 21), .ref (h0 + 268 + 22), .ref (h0 + 268 + 23), .ref (h0 + 268 + 24), .int (xJ 0), .int (xJ 0), .int (xJ 0), .int (xJ 0), .ref (h0 + 268 + 25), .ref (h0 + 268 + 26), .ref (h0 + 268 + 27), .int (xJ 0), .int (xJ 0), .int (xJ 0), .int (xJ 0), .ref (h0 + 268 + 28), .ref (h0 + 268 + 29), .ref (h0 + 268 + 30), .int (xJ 0), .ref (h0 + 268 + 31), .null, .null, .null, .null, .null, .null, .null, .null, .int (xJ 0), .null, .null]
theorem fmL_30 (h0 : Nat) : 49 < (fm_30 h0).length := Nat.le_of_ble_eq_true rfl
theorem fmS_30 (h0 : Nat) : (fm_30 h0).set 49 (.ref (h0 + 268 + 31)) = fm_31 h0 := rfl
def fm_32 (h0 : Nat) : List Value := [.ref (h0 + 268 + 1), .ref (h0 + 268 + 2), .ref (h0 + 268 + 3), .ref (h0 + 268 + 4), .ref (h0 + 268 + 5), .ref (h0 + 268 + 6), .ref (h0 + 268 + 7), .ref (h0 + 268 + 8), .int (xJ 0), .int (xJ 0), .int (xJ 0), .int (xJ 0), .int (xJ 0), .int (xJ 0), .int (xJ 0), .int (xJ 0), .int (xJ 0), .int (xJ 0), .ref (h0 + 268 + 9), .ref (h0 + 268 + 10), .ref (h0 + 268 + 11), .ref (h0 + 268 + 12), .ref (h0 + 268 + 13), .ref (h0 + 268 + 14), .ref (h0 + 268 + 15), .ref (h0 + 268 + 16), .ref (h0 + 268 + 17), .ref (h0 + 268 + 18), .ref (h0 + 268 + 19), .ref (h0 + 268 + 20), .ref (h0 + 268 + 21), .ref (h0 + 268 + 22), .ref (h0 + 268 + 23), .ref (h0 + 268 + 24), .int (xJ 0), .int (xJ 0), .int (xJ 0), .int (xJ 0), .ref (h0 + 268 + 25), .ref (h0 + 268 + 26), .ref (h0 + 268 + 27), .int (xJ 0), .int (xJ 0), .int (xJ 0), .int (xJ 0), .ref (h0 + 268 + 28), .ref (h0 + 268 + 29), .ref (h0 + 268 + 30), .int (xJ 0), .ref (h0 + 268 + 31), .ref (h0 + 268 + 32), .null, .null, .null, .null, .null, .null, .null, .int (xJ 0), .null, .null]
theorem fmL_31 (h0 : Nat) : 50 < (fm_31 h0).length := Nat.le_of_ble_eq_true rfl
theorem fmS_31 (h0 : Nat) : (fm_31 h0).set 50 (.ref (h0 + 268 + 32)) = fm_32 h0 := rfl
def fm_33 (h0 : Nat) : List Value := [.ref (h0 + 268 + 1), .ref (h0 + 268 + 2), .ref (h0 + 268 + 3), .ref (h0 + 268 + 4), .ref (h0 + 268 + 5), .ref (h0 + 268 + 6), .ref (h0 + 268 + 7), .ref (h0 + 268 + 8), .int (xJ 0), .int (xJ 0), .int (xJ 0), .int (xJ 0), .int (xJ 0), .int (xJ 0), .int (xJ 0), .int (xJ 0), .int (xJ 0), .int (xJ 0), .ref (h0 + 268 + 9), .ref (h0 + 268 + 10), .ref (h0 + 268 + 11), .ref (h0 + 268 + 12), .ref (h0 + 268 + 13), .ref (h0 + 268 + 14), .ref (h0 + 268 + 15), .ref (h0 + 268 + 16), .ref (h0 + 268 + 17), .ref (h0 + 268 + 18), .ref (h0 + 268 + 19), .ref (h0 + 268 + 20), .ref (h0 + 268 + 21), .ref (h0 + 268 + 22), .ref (h0 + 268 + 23), .ref (h0 + 268 + 24), .int (xJ 0), .int (xJ 0), .int (xJ 0), .int (xJ 0), .ref (h0 + 268 + 25), .ref (h0 + 268 + 26), .ref (h0 + 268 + 27), .int (xJ 0), .int (xJ 0), .int (xJ 0), .int (xJ 0), .ref (h0 + 268 + 28), .ref (h0 + 268 + 29), .ref (h0 + 268 + 30), .int (xJ 0), .ref (h0 + 268 + 31), .ref (h0 + 268 + 32), .ref (h0 + 268 + 33), .null, .null, .null, .null, .null, .null, .int (xJ 0), .null, .null]
theorem fmL_32 (h0 : Nat) : 51 < (fm_32 h0).length := Nat.le_of_ble_eq_true rfl
theorem fmS_32 (h0 : Nat) : (fm_32 h0).set 51 (.ref (h0 + 268 + 33)) = fm_33 h0 := rfl
def fm_34 (h0 : Nat) : List Value := [.ref (h0 + 268 + 1), .ref (h0 + 268 + 2), .ref (h0 + 268 + 3), .ref (h0 + 268 + 4), .ref (h0 + 268 + 5), .ref (h0 + 268 + 6), .ref (h0 + 268 + 7), .ref (h0 + 268 + 8), .int (xJ 0), .int (xJ 0), .int (xJ 0), .int (xJ 0), .int (xJ 0), .int (xJ 0), .int (xJ 0), .int (xJ 0), .int (xJ 0), .int (xJ 0), .ref (h0 + 268 + 9), .ref (h0 + 268 + 10), .ref (h0 + 268 + 11), .ref (h0 + 268 + 12), .ref (h0 + 268 + 13), .ref (h0 + 268 + 14), .ref (h0 + 268 + 15), .ref (h0 + 268 + 16), .ref (h0 + 268 + 17), .ref (h0 + 268 + 18), .ref (h0 + 268 + 19), .ref (h0 + 268 + 20), .ref (h0 + 268 + 21), .ref (h0 + 268 + 22), .ref (h0 + 268 + 23), .ref (h0 + 268 + 24), .int (xJ 0), .int (xJ 0), .int (xJ 0), .int (xJ 0), .ref (h0 + 268 + 25), .ref (h0 + 268 + 26), .ref (h0 + 268 + 27), .int (xJ 0), .int (xJ 0), .int (xJ 0), .int (xJ 0), .ref (h0 + 268 + 28), .ref (h0 + 268 + 29), .ref (h0 + 268 + 30), .int (xJ 0), .ref (h0 + 268 + 31), .ref (h0 + 268 + 32), .ref (h0 + 268 + 33), .ref (h0 + 268 + 34), .null, .null, .null, .null, .null, .int (xJ 0), .null, .null]
theorem fmL_33 (h0 : Nat) : 52 < (fm_33 h0).length := Nat.le_of_ble_eq_true rfl
theorem fmS_33 (h0 : Nat) : (fm_33 h0).set 52 (.ref (h0 + 268 + 34)) = fm_34 h0 := rfl
def fm_35 (h0 : Nat) : List Value := [.ref (h0 + 268 + 1), .ref (h0 + 268 + 2), .ref (h0 + 268 + 3), .ref (h0 + 268 + 4), .ref (h0 + 268 + 5), .ref (h0 + 268 + 6), .ref (h0 + 268 + 7), .ref (h0 + 268 + 8), .int (xJ 0), .int (xJ 0), .int (xJ 0), .int (xJ 0), .int (xJ 0), .int (xJ 0), .int (xJ 0), .int (xJ 0), .int (xJ 0), .int (xJ 0), .ref (h0 + 268 + 9), .ref (h0 + 268 + 10), .ref (h0 + 268 + 11), .ref (h0 + 268 + 12), .ref (h0 + 268 + 13), .ref (h0 + 268 + 14), .ref (h0 + 268 + 15), .ref (h0 + 268 + 16), .ref (h0 + 268 + 17), .ref (h0 + 268 + 18), .ref (h0 + 268 + 19), .ref (h0 + 268 + 20), .ref (h0 + 268 + 21), .ref (h0 + 268 + 22), .ref (h0 + 268 + 23), .ref (h0 + 268 + 24), .int (xJ 0), .int (xJ 0), .int (xJ 0), .int (xJ 0), .ref (h0 + 268 + 25), .ref (h0 + 268 + 26), .ref (h0 + 268 + 27), .int (xJ 0), .int (xJ 0), .int (xJ 0), .int (xJ 0), .ref (h0 + 268 + 28), .ref (h0 + 268 + 29), .ref (h0 + 268 + 30), .int (xJ 0), .ref (h0 + 268 + 31), .ref (h0 + 268 + 32), .ref (h0 + 268 + 33), .ref (h0 + 268 + 34), .ref (h0 + 268 + 35), .null, .null, .null, .null, .int (xJ 0), .null, .null]
theorem fmL_34 (h0 : Nat) : 53 < (fm_34 h0).length := Nat.le_of_ble_eq_true rfl
theorem fmS_34 (h0 : Nat) : (fm_34 h0).set 53 (.ref (h0 + 268 + 35)) = fm_35 h0 := rfl
def fm_36 (h0 : Nat) : List Value := [.ref (h0 + 268 + 1), .ref (h0 + 268 + 2), .ref (h0 + 268 + 3), .ref (h0 + 268 + 4), .ref (h0 + 268 + 5), .ref (h0 + 268 + 6), .ref (h0 + 268 + 7), .ref (h0 + 268 + 8), .int (xJ 0), .int (xJ 0), .int (xJ 0), .int (xJ 0), .int (xJ 0), .int (xJ 0), .int (xJ 0), .int (xJ 0), .int (xJ 0), .int (xJ 0), .ref (h0 + 268 + 9), .ref (h0 + 268 + 10), .ref (h0 + 268 + 11), .ref (h0 + 268 + 12), .ref (h0 + 268 + 13), .ref (h0 + 268 + 14), .ref (h0 + 268 + 15), .ref (h0 + 268 + 16), .ref (h0 + 268 + 17), .ref (h0 + 268 + 18), .ref (h0 + 268 + 19), .ref (h0 + 268 + 20), .ref (h0 + 268 + 21), .ref (h0 + 268 + 22), .ref (h0 + 268 + 23), .ref (h0 + 268 + 24), .int (xJ 0), .int (xJ 0), .int (xJ 0), .int (xJ 0), .ref (h0 + 268 + 25), .ref (h0 + 268 + 26), .ref (h0 + 268 + 27), .int (xJ 0), .int (xJ 0), .int (xJ 0), .int (xJ 0), .ref (h0 + 268 + 28), .ref (h0 + 268 + 29), .ref (h0 + 268 + 30), .int (xJ 0), .ref (h0 + 268 + 31), .ref (h0 + 268 + 32), .ref (h0 + 268 + 33), .ref (h0 + 268 + 34), .ref (h0 + 268 + 35), .ref (h0 + 268 + 36), .null, .null, .null, .int (xJ 0), .null, .null]
theorem fmL_35 (h0 : Nat) : 54 < (fm_35 h0).length := Nat.le_of_ble_eq_true rfl
theorem fmS_35 (h0 : Nat) : (fm_35 h0).set 54 (.ref (h0 + 268 + 36)) = fm_36 h0 := rfl
def fm_37 (h0 : Nat) : List Value := [.ref (h0 + 268 + 1), .ref (h0 + 268 + 2), .ref (h0 + 268 + 3), .ref (h0 + 268 + 4), .ref (h0 + 268 + 5), .ref (h0 + 268 + 6), .ref (h0 + 268 + 7), .ref (h0 + 268 + 8), .int (xJ 0), .int (xJ 0), .int (xJ 0), .int (xJ 0), .int (xJ 0), .int (xJ 0), .int (xJ 0), .int (xJ 0), .int (xJ 0), .int (xJ 0), .ref (h0 + 268 + 9), .ref (h0 + 268 + 10), .ref (h0 + 268 + 11), .ref (h0 + 268 + 12), .ref (h0 + 268 + 13), .ref (h0 + 268 + 14), .ref (h0 + 268 + 15), .ref (h0 + 268 + 16), .ref (h0 + 268 + 17), .ref (h0 + 268 + 18), .ref (h0 + 268 + 19), .ref (h0 + 268 + 20), .ref (h0 + 268 + 21), .ref (h0 + 268 + 22), .ref (h0 + 268 + 23), .ref (h0 + 268 + 24), .int (xJ 0), .int (xJ 0), .int (xJ 0), .int (xJ 0), .ref (h0 + 268 + 25), .ref (h0 + 268 + 26), .ref (h0 + 268 + 27), .int (xJ 0), .int (xJ 0), .int (xJ 0), .int (xJ 0), .ref (h0 + 268 + 28), .ref (h0 + 268 + 29), .ref (h0 + 268 + 30), .int (xJ 0), .ref (h0 + 268 + 31), .ref (h0 + 268 + 32), .ref (h0 + 268 + 33), .ref (h0 + 268 + 34), .ref (h0 + 268 + 35), .ref (h0 + 268 + 36), .ref (h0 + 268 + 37), .null, .null, .int (xJ 0), .null, .null]
theorem fmL_36 (h0 : Nat) : 55 < (fm_36 h0).length := Nat.le_of_ble_eq_true rfl
theorem fmS_36 (h0 : Nat) : (fm_36 h0).set 55 (.ref (h0 + 268 + 37)) = fm_37 h0 := rfl
def fm_38 (h0 : Nat) : List Value := [.ref (h0 + 268 + 1), .ref (h0 + 268 + 2), .ref (h0 + 268 + 3), .ref (h0 + 268 + 4), .ref (h0 + 268 + 5), .ref (h0 + 268 + 6), .ref (h0 + 268 + 7), .ref (h0 + 268 + 8), .int (xJ 0), .int (xJ 0), .int (xJ 0), .int (xJ 0), .int (xJ 0), .int (xJ 0), .int (xJ 0), .int (xJ 0), .int (xJ 0), .int (xJ 0), .ref (h0 + 268 + 9), .ref (h0 + 268 + 10), .ref (h0 + 268 + 11), .ref (h0 + 268 + 12), .ref (h0 + 268 + 13), .ref (h0 + 268 + 14), .ref (h0 + 268 + 15), .ref (h0 + 268 + 16), .ref (h0 + 268 + 17), .ref (h0 + 268 + 18), .ref (h0 + 268 + 19), .ref (h0 + 268 + 20), .ref (h0 + 268 + 21), .ref (h0 + 268 + 22), .ref (h0 + 268 + 23), .ref (h0 + 268 + 24), .int (xJ 0), .int (xJ 0), .int (xJ 0), .int (xJ 0), .ref (h0 + 268 + 25), .ref (h0 + 268 + 26), .ref (h0 + 268 + 27), .int (xJ 0), .int (xJ 0), .int (xJ 0), .int (xJ 0), .ref (h0 + 268 + 28), .ref (h0 + 268 + 29), .ref (h0 + 268 + 30), .int (xJ 0), .ref (h0 + 268 + 31), .ref (h0 + 268 + 32), .ref (h0 + 268 + 33), .ref (h0 + 268 + 34), .ref (h0 + 268 + 35), .ref (h0 + 268 + 36), .ref (h0 + 268 + 37), .ref (h0 + 268 + 38), .null, .int (xJ 0), .null, .null]
theorem fmL_37 (h0 : Nat) : 56 < (fm_37 h0).length := Nat.le_of_ble_eq_true rfl
theorem fmS_37 (h0 : Nat) : (fm_37 h0).set 56 (.ref (h0 + 268 + 38)) = fm_38 h0 := rfl
def fm_39 (h0 : Nat) : List Value := [.ref (h0 + 268 + 1), .ref (h0 + 268 + 2), .ref (h0 + 268 + 3), .ref (h0 + 268 + 4), .ref (h0 + 268 + 5), .ref (h0 + 268 + 6), .ref (h0 + 268 + 7), .ref (h0 + 268 + 8), .int (xJ 0), .int (xJ 0), .int (xJ 0), .int (xJ 0), .int (xJ 0), .int (xJ 0), .int (xJ 0), .int (xJ 0), .int (xJ 0), .int (xJ 0), .ref (h0 + 268 + 9), .ref (h0 + 268 + 10), .ref (h0 + 268 + 11), .ref (h0 + 268 + 12), .ref (h0 + 268 + 13), .ref (h0 + 268 + 14), .ref (h0 + 268 + 15), .ref (h0 + 268 + 16), .ref (h0 + 268 + 17), .ref (h0 + 268 + 18), .ref (h0 + 268 + 19), .ref (h0 + 268 + 20), .ref (h0 + 268 + 21), .ref (h0 + 268 + 22), .ref (h0 + 268 + 23), .ref (h0 + 268 + 24), .int (xJ 0), .int (xJ 0), .int (xJ 0), .int (xJ 0), .ref (h0 + 268 + 25), .ref (h0 + 268 + 26), .ref (h0 + 268 + 27), .int (xJ 0), .int (xJ 0), .int (xJ 0), .int (xJ 0), .ref (h0 + 268 + 28), .ref (h0 + 268 + 29), .ref (h0 + 268 + 30), .int (xJ 0), .ref (h0 + 268 + 31), .ref (h0 + 268 + 32), .ref (h0 + 268 + 33), .ref (h0 + 268 + 34), .ref (h0 + 268 + 35), .ref (h0 + 268 + 36), .ref (h0 + 268 + 37), .ref (h0 + 268 + 38), .ref (h0 + 268 + 39), .int (xJ 0), .null, .null]
theorem fmL_38 (h0 : Nat) : 57 < (fm_38 h0).length := Nat.le_of_ble_eq_true rfl
theorem fmS_38 (h0 : Nat) : (fm_38 h0).set 57 (.ref (h0 + 268 + 39)) = fm_39 h0 := rfl
def fm_40 (h0 : Nat) : List Value := [.ref (h0 + 268 + 1), .ref (h0 + 268 + 2), .ref (h0 + 268 + 3), .ref (h0 + 268 + 4), .ref (h0 + 268 + 5), .ref (h0 + 268 + 6), .ref (h0 + 268 + 7), .ref (h0 + 268 + 8), .int (xJ 0), .int (xJ 0), .int (xJ 0), .int (xJ 0), .int (xJ 0), .int (xJ 0), .int (xJ 0), .int (xJ 0), .int (xJ 0), .int (xJ 0), .ref (h0 + 268 + 9), .ref (h0 + 268 + 10), .ref (h0 + 268 + 11), .ref (h0 + 268 + 12), .ref (h0 + 268 + 13), .ref (h0 + 268 + 14), .ref (h0 + 268 + 15), .ref (h0 + 268 + 16), .ref (h0 + 268 + 17), .ref (h0 + 268 + 18), .ref (h0 + 268 + 19), .ref (h0 + 268 + 20), .ref (h0 + 268 + 21), .ref (h0 + 268 + 22), .ref (h0 + 268 + 23), .ref (h0 + 268 + 24), .int (xJ 0), .int (xJ 0), .int (xJ 0), .int (xJ 0), .ref (h0 + 268 + 25), .ref (h0 + 268 + 26), .ref (h0 + 268 + 27), .int (xJ 0), .int (xJ 0), .int (xJ 0), .int (xJ 0), .ref (h0 + 268 + 28), .ref (h0 + 268 + 29), .ref (h0 + 268 + 30), .int (xJ 0), .ref (h0 + 268 + 31), .ref (h0 + 268 + 32), .ref (h0 + 268 + 33), .ref (h0 + 268 + 34), .ref (h0 + 268 + 35), .ref (h0 + 268 + 36), .ref (h0 + 268 + 37), .ref (h0 + 268 + 38), .ref (h0 + 268 + 39), .int (xJ 0), .ref (h0 + 268 + 40), .null]
theorem fmL_39 (h0 : Nat) : 59 < (fm_39 h0).length := Nat.le_of_ble_eq_true rfl
theorem fmS_39 (h0 : Nat) : (fm_39 h0).set 59 (.ref (h0 + 268 + 40)) = fm_40 h0 := rfl
def fm_41 (h0 : Nat) : List Value := [.ref (h0 + 268 + 1), .ref (h0 + 268 + 2), .ref (h0 + 268 + 3), .ref (h0 + 268 + 4), .ref (h0 + 268 + 5), .ref (h0 + 268 + 6), .ref (h0 + 268 + 7), .ref (h0 + 268 + 8), .int (xJ 0), .int (xJ 0), .int (xJ 0), .int (xJ 0), .int (xJ 0), .int (xJ 0), .int (xJ 0), .int (xJ 0), .int (xJ 0), .int (xJ 0), .ref (h0 + 268 + 9), .ref (h0 + 268 + 10), .ref (h0 + 268 + 11), .ref (h0 + 268 + 12), .ref (h0 + 268 + 13), .ref (h0 + 268 + 14), .ref (h0 + 268 + 15), .ref (h0 + 268 + 16), .ref (h0 + 268 + 17), .ref (h0 + 268 + 18), .ref (h0 + 268 + 19), .ref (h0 + 268 + 20), .ref (h0 + 268 + 21), .ref (h0 + 268 + 22), .ref (h0 + 268 + 23), .ref (h0 + 268 + 24), .int (xJ 0), .int (xJ 0), .int (xJ 0), .int (xJ 0), .ref (h0 + 268 + 25), .ref (h0 + 268 + 26), .ref (h0 + 268 + 27), .int (xJ 0), .int (xJ 0), .int (xJ 0), .int (xJ 0), .ref (h0 + 268 + 28), .ref (h0 + 268 + 29), .ref (h0 + 268 + 30), .int (xJ 0), .ref (h0 + 268 + 31), .ref (h0 + 268 + 32), .ref (h0 + 268 + 33), .ref (h0 + 268 + 34), .ref (h0 + 268 + 35), .ref (h0 + 268 + 36), .ref (h0 + 268 + 37), .ref (h0 + 268 + 38), .ref (h0 + 268 + 39), .int (xJ 0), .ref (h0 + 268 + 40), .ref (h0 + 268 + 41)]
theorem fmL_40 (h0 : Nat) : 60 < (fm_40 h0).length := Nat.le_of_ble_eq_true rfl
theorem fmS_40 (h0 : Nat) : (fm_40 h0).set 60 (.ref (h0 + 268 + 41)) = fm_41 h0 := rfl
def fm_42 (h0 : Nat) : List Value := [.ref (h0 + 268 + 1), .ref (h0 + 268 + 2), .ref (h0 + 268 + 3), .ref (h0 + 268 + 4), .ref (h0 + 268 + 5), .ref (h0 + 268 + 6), .ref (h0 + 268 + 7), .ref (h0 + 268 + 8), .int (xJ 0), .int (xJ 0), .int (xJ 0), .int (xJ 0), .int (xJ 0), .int (xJ 0), .int (xJ 0), .int (xJ 0), .int (xJ 0), .int (xJ 0), .ref (h0 + 268 + 9), .ref (h0 + 268 + 10), .ref (h0 + 268 + 11), .ref (h0 + 268 + 12), .ref (h0 + 268 + 13), .ref (h0 + 268 + 14), .ref (h0 + 268 + 15), .ref (h0 + 268 + 16), .ref (h0 + 268 + 17), .ref (h0 + 268 + 18), .ref (h0 + 268 + 19), .ref (h0 + 268 + 20), .ref (h0 + 268 + 21), .ref (h0 + 268 + 22), .ref (h0 + 268 + 23), .ref (h0 + 268 + 24), .int (xJ 0), .int (xJ 0), .int (xJ 0), .int (xJ 0), .ref (h0 + 268 + 25), .ref (h0 + 268 + 26), .ref (h0 + 268 + 27), .int (xJ 0), .int (xJ 0), .int (xJ 0), .int (xJ 0), .ref (h0 + 268 + 28), .ref (h0 + 268 + 29), .ref (h0 + 268 + 30), .int (xJ (-1)), .ref (h0 + 268 + 31), .ref (h0 + 268 + 32), .ref (h0 + 268 + 33), .ref (h0 + 268 + 34), .ref (h0 + 268 + 35), .ref (h0 + 268 + 36), .ref (h0 + 268 + 37), .ref (h0 + 268 + 38), .ref (h0 + 268 + 39), .int (xJ 0), .ref (h0 + 268 + 40), .ref (h0 + 268 + 41)]
theorem fmL_41 (h0 : Nat) : 48 < (fm_41 h0).length := Nat.le_of_ble_eq_true rfl
theorem fmS_41 (h0 : Nat) : (fm_41 h0).set 48 (.int (xJ (-1))) = fm_42 h0 := rfl
set_option maxHeartbeats 2000000 in
theorem b_X11_268 (l : Launch) (D : va_G) (g : xG) (T : Nat × Nat × Nat) (h0 : Nat) : Met l yX11_init (xws yX11_init cX11_init 2 none) { frames := 1, cells := 41, slots := 19826, locals := 20 } (bP [.ref (h0 + 268)] D g T (h0 + 268) (.inr (11, fm_0 h0))) (bQ D (h0 + 268) 42 (fun k => xcel h0 g xI (268 + k))) 41 19826 (xA (h0 + 268)) := by
  refine b_met (by decide) (Nat.le_of_ble_eq_true rfl) ?_
  intro p e s m args below meth c hx hb hr hml hown hT hlk hnm hE hO hB ls hl
  have hl : lv_has ls 2 [(0, .ref (h0 + 268))] := hl
  obtain ⟨Q, eQ⟩ : ∃ Q, Q = MQ below (bQ D (h0 + 268) 42 (fun k => xcel h0 g xI (268 + k))) args s 41 19826 (xA (h0 + 268)) := ⟨_, rfl⟩
  rw [← eQ]
  generalize hHe : ([] : List Loc) = locs at hB ⊢
  obtain ⟨H, eH⟩ : ∃ H, H = s.heap := ⟨_, rfl⟩
  rw [← eH] at hB ⊢
  refine x_aload_n hx hb hl 0 rfl dX11_init_0 rfl ?_
  refine b_obj hx hb (hml.trans hl.1.symm) hown hT bo1184 bo_inst bo_code (by decide) (Nat.le_of_ble_eq_true rfl) dX11_init_1 ?_
  refine x_aload_n hx hb hl 0 rfl dX11_init_4 rfl ?_
  refine x_bipush hx hb dX11_init_5 (by decide) ?_
  refine b_newaI (N := 39) hx hb hT hE hB wq217 rfl (by decide) (by decide) (by decide) dX11_init_7 (fun H hB => ?_)
  have hB := bB_n (n1 := 2) rfl hB
  refine b_putF (j := 0) hx hb hown hT hE hB cls_X11 0 (by decide) rfl (by decide) (fmL_0 h0) (fmS_0 h0) wq1185 rfl hnm rfl rfl rfl dX11_init_9 (fun H locs hB => ?_)
  refine x_aload_n hx hb hl 0 rfl dX11_init_12 rfl ?_
  refine x_bipush hx hb dX11_init_13 (by decide) ?_
  refine b_newaI (N := 39) hx hb hT hE hB wq217 rfl (by decide) (by decide) (by decide) dX11_init_15 (fun H hB => ?_)
  have hB := bB_n (n1 := 3) rfl hB
  refine b_putF (j := 1) hx hb hown hT hE hB cls_X11 0 (by decide) rfl (by decide) (fmL_1 h0) (fmS_1 h0) wq1186 rfl hnm rfl rfl rfl dX11_init_17 (fun H locs hB => ?_)
  refine x_aload_n hx hb hl 0 rfl dX11_init_20 rfl ?_
  refine b_pc (pc1 := 21) rfl ?_
  refine x_bipush hx hb dX11_init_21 (by decide) ?_
  refine b_newaI (N := 39) hx hb hT hE hB wq217 rfl (by decide) (by decide) (by decide) dX11_init_23 (fun H hB => ?_)
  have hB := bB_n (n1 := 4) rfl hB
  refine b_putF (j := 2) hx hb hown hT hE hB cls_X11 0 (by decide) rfl (by decide) (fmL_2 h0) (fmS_2 h0) wq1187 rfl hnm rfl rfl rfl dX11_init_25 (fun H locs hB => ?_)
  refine x_aload_n hx hb hl 0 rfl dX11_init_28 rfl ?_
  refine x_bipush hx hb dX11_init_29 (by decide) ?_
  refine b_newaI (N := 100) hx hb hT hE hB wq217 rfl (by decide) (by decide) (by decide) dX11_init_31 (fun H hB => ?_)
  have hB := bB_n (n1 := 5) rfl hB
  refine b_putF (j := 3) hx hb hown hT hE hB cls_X11 0 (by decide) rfl (by decide) (fmL_3 h0) (fmS_3 h0) wq1188 rfl hnm rfl rfl rfl dX11_init_33 (fun H locs hB => ?_)
  refine x_aload_n hx hb hl 0 rfl dX11_init_36 rfl ?_
  refine x_iconst hx hb dX11_init_37 ?_
  refine b_newaI (N := 4) hx hb hT hE hB wq217 rfl (by decide) (by decide) (by decide) dX11_init_38 (fun H hB => ?_)
  have hB := bB_n (n1 := 6) rfl hB
  refine b_putF (j := 4) hx hb hown hT hE hB cls_X11 0 (by decide) rfl (by decide) (fmL_4 h0) (fmS_4 h0) wq1189 rfl hnm rfl rfl rfl dX11_init_40 (fun H locs hB => ?_)
  refine x_aload_n hx hb hl 0 rfl dX11_init_43 rfl ?_
  refine b_pc (pc1 := 44) rfl ?_
  refine x_iconst hx hb dX11_init_44 ?_
  refine b_newaI (N := 2) hx hb hT hE hB wq217 rfl (by decide) (by decide) (by decide) dX11_init_45 (fun H hB => ?_)
  have hB := bB_n (n1 := 7) rfl hB
  refine b_putF (j := 5) hx hb hown hT hE hB cls_X11 0 (by decide) rfl (by decide) (fmL_5 h0) (fmS_5 h0) wq1190 rfl hnm rfl rfl rfl dX11_init_47 (fun H locs hB => ?_)
  refine x_aload_n hx hb hl 0 rfl dX11_init_50 rfl ?_
  refine x_bipush hx hb dX11_init_51 (by decide) ?_
  refine b_newaB (N := 120) hx hb hT hE hB wq1369 rfl (by decide) (by decide) (by decide) dX11_init_53 (fun H hB => ?_)
  have hB := bB_n (n1 := 8) rfl hB
  refine b_putF (j := 6) hx hb hown hT hE hB cls_X11 0 (by decide) rfl (by decide) (fmL_6 h0) (fmS_6 h0) wq1191 rfl hnm rfl rfl rfl dX11_init_55 (fun H locs hB => ?_)
  refine x_aload_n hx hb hl 0 rfl dX11_init_58 rfl ?_
  refine x_sipush hx hb dX11_init_59 (by decide) ?_
  refine b_newaB (N := 260) hx hb hT hE hB wq1369 rfl (by decide) (by decide) (by decide) dX11_init_62 (fun H hB => ?_)
  have hB := bB_n (n1 := 9) rfl hB
  refine b_putF (j := 7) hx hb hown hT hE hB cls_X11 0 (by decide) rfl (by decide) (fmL_7 h0) (fmS_7 h0) wq1192 rfl hnm rfl rfl rfl dX11_init_64 (fun H locs hB => ?_)
  refine x_aload_n hx hb hl 0 rfl dX11_init_67 rfl ?_
  refine b_pc (pc1 := 68) rfl ?_
  refine x_sipush hx hb dX11_init_68 (by decide) ?_
  refine b_newaI (N := 260) hx hb hT hE hB wq217 rfl (by decide) (by decide) (by decide) dX11_init_71 (fun H hB => ?_)
  have hB := bB_n (n1 := 10) rfl hB
  refine b_putF (j := 18) hx hb hown hT hE hB cls_X11 0 (by decide) rfl (by decide) (fmL_8 h0) (fmS_8 h0) wq1203 rfl hnm rfl rfl rfl dX11_init_73 (fun H locs hB => ?_)
  refine x_aload_n hx hb hl 0 rfl dX11_init_76 rfl ?_
  refine x_sipush hx hb dX11_init_77 (by decide) ?_
  refine b_newaI (N := 260) hx hb hT hE hB wq217 rfl (by decide) (by decide) (by decide) dX11_init_80 (fun H hB => ?_)
  have hB := bB_n (n1 := 11) rfl hB
  refine b_putF (j := 19) hx hb hown hT hE hB cls_X11 0 (by decide) rfl (by decide) (fmL_9 h0) (fmS_9 h0) wq1204 rfl hnm rfl rfl rfl dX11_init_82 (fun H locs hB => ?_)
  refine x_aload_n hx hb hl 0 rfl dX11_init_85 rfl ?_
  refine x_bipush hx hb dX11_init_86 (by decide) ?_
  refine b_newaI (N := 16) hx hb hT hE hB wq217 rfl (by decide) (by decide) (by decide) dX11_init_88 (fun H hB => ?_)
  have hB := bB_n (n1 := 12) rfl hB
  refine b_putF (j := 20) hx hb hown hT hE hB cls_X11 0 (by decide) rfl (by decide) (fmL_10 h0) (fmS_10 h0) wq1205 rfl hnm rfl rfl rfl dX11_init_90 (fun H locs hB => ?_)
  refine x_aload_n hx hb hl 0 rfl dX11_init_93 rfl ?_
  refine b_pc (pc1 := 94) rfl ?_
  refine x_bipush hx hb dX11_init_94 (by decide) ?_
  refine b_newaI (N := 16) hx hb hT hE hB wq217 rfl (by decide) (by decide) (by decide) dX11_init_96 (fun H hB => ?_)
  have hB := bB_n (n1 := 13) rfl hB
  refine b_putF (j := 21) hx hb hown hT hE hB cls_X11 0 (by decide) rfl (by decide) (fmL_11 h0) (fmS_11 h0) wq1206 rfl hnm rfl rfl rfl dX11_init_98 (fun H locs hB => ?_)
  refine x_aload_n hx hb hl 0 rfl dX11_init_101 rfl ?_
  refine x_bipush hx hb dX11_init_102 (by decide) ?_
  refine b_newaI (N := 16) hx hb hT hE hB wq217 rfl (by decide) (by decide) (by decide) dX11_init_104 (fun H hB => ?_)
  have hB := bB_n (n1 := 14) rfl hB
  refine b_putF (j := 22) hx hb hown hT hE hB cls_X11 0 (by decide) rfl (by decide) (fmL_12 h0) (fmS_12 h0) wq1207 rfl hnm rfl rfl rfl dX11_init_106 (fun H locs hB => ?_)
  refine x_aload_n hx hb hl 0 rfl dX11_init_109 rfl ?_
  refine x_bipush hx hb dX11_init_110 (by decide) ?_
  refine b_newaI (N := 16) hx hb hT hE hB wq217 rfl (by decide) (by decide) (by decide) dX11_init_112 (fun H hB => ?_)
  have hB := bB_n (n1 := 15) rfl hB
  refine b_putF (j := 23) hx hb hown hT hE hB cls_X11 0 (by decide) rfl (by decide) (fmL_13 h0) (fmS_13 h0) wq1208 rfl hnm rfl rfl rfl dX11_init_114 (fun H locs hB => ?_)
  refine x_aload_n hx hb hl 0 rfl dX11_init_117 rfl ?_
  refine b_pc (pc1 := 118) rfl ?_
  refine x_sipush hx hb dX11_init_118 (by decide) ?_
  refine b_newaI (N := 260) hx hb hT hE hB wq217 rfl (by decide) (by decide) (by decide) dX11_init_121 (fun H hB => ?_)
  have hB := bB_n (n1 := 16) rfl hB
  refine b_putF (j := 24) hx hb hown hT hE hB cls_X11 0 (by decide) rfl (by decide) (fmL_14 h0) (fmS_14 h0) wq1209 rfl hnm rfl rfl rfl dX11_init_123 (fun H locs hB => ?_)
  refine x_aload_n hx hb hl 0 rfl dX11_init_126 rfl ?_
  refine x_bipush hx hb dX11_init_127 (by decide) ?_
  refine b_newaI (N := 16) hx hb hT hE hB wq217 rfl (by decide) (by decide) (by decide) dX11_init_129 (fun H hB => ?_)
  have hB := bB_n (n1 := 17) rfl hB
  refine b_putF (j := 25) hx hb hown hT hE hB cls_X11 0 (by decide) rfl (by decide) (fmL_15 h0) (fmS_15 h0) wq1210 rfl hnm rfl rfl rfl dX11_init_131 (fun H locs hB => ?_)
  refine x_aload_n hx hb hl 0 rfl dX11_init_134 rfl ?_
  refine x_bipush hx hb dX11_init_135 (by decide) ?_
  refine b_newaI (N := 16) hx hb hT hE hB wq217 rfl (by decide) (by decide) (by decide) dX11_init_137 (fun H hB => ?_)
  have hB := bB_n (n1 := 18) rfl hB
  refine b_putF (j := 26) hx hb hown hT hE hB cls_X11 0 (by decide) rfl (by decide) (fmL_16 h0) (fmS_16 h0) wq1211 rfl hnm rfl rfl rfl dX11_init_139 (fun H locs hB => ?_)
  refine x_aload_n hx hb hl 0 rfl dX11_init_142 rfl ?_
  refine b_pc (pc1 := 143) rfl ?_
  refine x_bipush hx hb dX11_init_143 (by decide) ?_
  refine b_newaI (N := 16) hx hb hT hE hB wq217 rfl (by decide) (by decide) (by decide) dX11_init_145 (fun H hB => ?_)
  have hB := bB_n (n1 := 19) rfl hB
  refine b_putF (j := 27) hx hb hown hT hE hB cls_X11 0 (by decide) rfl (by decide) (fmL_17 h0) (fmS_17 h0) wq1212 rfl hnm rfl rfl rfl dX11_init_147 (fun H locs hB => ?_)
  refine x_aload_n hx hb hl 0 rfl dX11_init_150 rfl ?_
  refine x_bipush hx hb dX11_init_151 (by decide) ?_
  refine b_newaI (N := 16) hx hb hT hE hB wq217 rfl (by decide) (by decide) (by decide) dX11_init_153 (fun H hB => ?_)
  have hB := bB_n (n1 := 20) rfl hB
  refine b_putF (j := 28) hx hb hown hT hE hB cls_X11 0 (by decide) rfl (by decide) (fmL_18 h0) (fmS_18 h0) wq1213 rfl hnm rfl rfl rfl dX11_init_155 (fun H locs hB => ?_)
  refine x_aload_n hx hb hl 0 rfl dX11_init_158 rfl ?_
  refine x_bipush hx hb dX11_init_159 (by decide) ?_
  refine b_newaI (N := 100) hx hb hT hE hB wq217 rfl (by decide) (by decide) (by decide) dX11_init_161 (fun H hB => ?_)
  have hB := bB_n (n1 := 21) rfl hB
  refine b_putF (j := 29) hx hb hown hT hE hB cls_X11 0 (by decide) rfl (by decide) (fmL_19 h0) (fmS_19 h0) wq1214 rfl hnm rfl rfl rfl dX11_init_163 (fun H locs hB => ?_)
  refine x_aload_n hx hb hl 0 rfl dX11_init_166 rfl ?_
  refine b_pc (pc1 := 167) rfl ?_
  refine x_bipush hx hb dX11_init_167 (by decide) ?_
  refine b_newaB (N := 60) hx hb hT hE hB wq1369 rfl (by decide) (by decide) (by decide) dX11_init_169 (fun H hB => ?_)
  have hB := bB_n (n1 := 22) rfl hB
  refine b_putF (j := 30) hx hb hown hT hE hB cls_X11 0 (by decide) rfl (by decide) (fmL_20 h0) (fmS_20 h0) wq1215 rfl hnm rfl rfl rfl dX11_init_171 (fun H locs hB => ?_)
  refine x_aload_n hx hb hl 0 rfl dX11_init_174 rfl ?_
  refine x_iconst hx hb dX11_init_175 ?_
  refine b_newaI (N := 2) hx hb hT hE hB wq217 rfl (by decide) (by decide) (by decide) dX11_init_176 (fun H hB => ?_)
  have hB := bB_n (n1 := 23) rfl hB
  refine b_putF (j := 31) hx hb hown hT hE hB cls_X11 0 (by decide) rfl (by decide) (fmL_21 h0) (fmS_21 h0) wq1216 rfl hnm rfl rfl rfl dX11_init_178 (fun H locs hB => ?_)
  refine x_aload_n hx hb hl 0 rfl dX11_init_181 rfl ?_
  refine x_iconst hx hb dX11_init_182 ?_
  refine b_newaI (N := 2) hx hb hT hE hB wq217 rfl (by decide) (by decide) (by decide) dX11_init_183 (fun H hB => ?_)
  have hB := bB_n (n1 := 24) rfl hB
  refine b_putF (j := 32) hx hb hown hT hE hB cls_X11 0 (by decide) rfl (by decide) (fmL_22 h0) (fmS_22 h0) wq1217 rfl hnm rfl rfl rfl dX11_init_185 (fun H locs hB => ?_)
  refine x_aload_n hx hb hl 0 rfl dX11_init_188 rfl ?_
  refine b_pc (pc1 := 189) rfl ?_
  refine x_iconst hx hb dX11_init_189 ?_
  refine b_newaI (N := 2) hx hb hT hE hB wq217 rfl (by decide) (by decide) (by decide) dX11_init_190 (fun H hB => ?_)
  have hB := bB_n (n1 := 25) rfl hB
  refine b_putF (j := 33) hx hb hown hT hE hB cls_X11 0 (by decide) rfl (by decide) (fmL_23 h0) (fmS_23 h0) wq1218 rfl hnm rfl rfl rfl dX11_init_192 (fun H locs hB => ?_)
  refine x_aload_n hx hb hl 0 rfl dX11_init_195 rfl ?_
  refine x_sipush hx hb dX11_init_196 (by decide) ?_
  refine b_newaI (N := 260) hx hb hT hE hB wq217 rfl (by decide) (by decide) (by decide) dX11_init_199 (fun H hB => ?_)
  have hB := bB_n (n1 := 26) rfl hB
  refine b_putF (j := 38) hx hb hown hT hE hB cls_X11 0 (by decide) rfl (by decide) (fmL_24 h0) (fmS_24 h0) wq1223 rfl hnm rfl rfl rfl dX11_init_201 (fun H locs hB => ?_)
  refine x_aload_n hx hb hl 0 rfl dX11_init_204 rfl ?_
  refine x_bipush hx hb dX11_init_205 (by decide) ?_
  refine b_newaI (N := 7) hx hb hT hE hB wq217 rfl (by decide) (by decide) (by decide) dX11_init_207 (fun H hB => ?_)
  have hB := bB_n (n1 := 27) rfl hB
  refine b_putF (j := 39) hx hb hown hT hE hB cls_X11 0 (by decide) rfl (by decide) (fmL_25 h0) (fmS_25 h0) wq1224 rfl hnm rfl rfl rfl dX11_init_209 (fun H locs hB => ?_)
  refine x_aload_n hx hb hl 0 rfl dX11_init_212 rfl ?_
  refine b_pc (pc1 := 213) rfl ?_
  refine x_bipush hx hb dX11_init_213 (by decide) ?_
  refine b_newaI (N := 100) hx hb hT hE hB wq217 rfl (by decide) (by decide) (by decide) dX11_init_215 (fun H hB => ?_)
  have hB := bB_n (n1 := 28) rfl hB
  refine b_putF (j := 40) hx hb hown hT hE hB cls_X11 0 (by decide) rfl (by decide) (fmL_26 h0) (fmS_26 h0) wq1225 rfl hnm rfl rfl rfl dX11_init_217 (fun H locs hB => ?_)
  refine x_aload_n hx hb hl 0 rfl dX11_init_220 rfl ?_
  refine x_bipush hx hb dX11_init_221 (by decide) ?_
  refine b_newaI (N := 100) hx hb hT hE hB wq217 rfl (by decide) (by decide) (by decide) dX11_init_223 (fun H hB => ?_)
  have hB := bB_n (n1 := 29) rfl hB
  refine b_putF (j := 45) hx hb hown hT hE hB cls_X11 0 (by decide) rfl (by decide) (fmL_27 h0) (fmS_27 h0) wq1230 rfl hnm rfl rfl rfl dX11_init_225 (fun H locs hB => ?_)
  refine x_aload_n hx hb hl 0 rfl dX11_init_228 rfl ?_
  refine x_bipush hx hb dX11_init_229 (by decide) ?_
  refine b_newaI (N := 10) hx hb hT hE hB wq217 rfl (by decide) (by decide) (by decide) dX11_init_231 (fun H hB => ?_)
  have hB := bB_n (n1 := 30) rfl hB
  refine b_putF (j := 46) hx hb hown hT hE hB cls_X11 0 (by decide) rfl (by decide) (fmL_28 h0) (fmS_28 h0) wq1231 rfl hnm rfl rfl rfl dX11_init_233 (fun H locs hB => ?_)
  refine x_aload_n hx hb hl 0 rfl dX11_init_236 rfl ?_
  refine b_pc (pc1 := 237) rfl ?_
  refine x_bipush hx hb dX11_init_237 (by decide) ?_
  refine b_newaI (N := 10) hx hb hT hE hB wq217 rfl (by decide) (by decide) (by decide) dX11_init_239 (fun H hB => ?_)
  have hB := bB_n (n1 := 31) rfl hB
  refine b_putF (j := 47) hx hb hown hT hE hB cls_X11 0 (by decide) rfl (by decide) (fmL_29 h0) (fmS_29 h0) wq1232 rfl hnm rfl rfl rfl dX11_init_241 (fun H locs hB => ?_)
  refine x_aload_n hx hb hl 0 rfl dX11_init_244 rfl ?_
  refine x_bipush hx hb dX11_init_245 (by decide) ?_
  refine b_newaZ (N := 100) hx hb hT hE hB wq242 rfl (by decide) (by decide) (by decide) dX11_init_247 (fun H hB => ?_)
  have hB := bB_n (n1 := 32) rfl hB
  refine b_putF (j := 49) hx hb hown hT hE hB cls_X11 0 (by decide) rfl (by decide) (fmL_30 h0) (fmS_30 h0) wq1234 rfl hnm rfl rfl rfl dX11_init_249 (fun H locs hB => ?_)
  refine x_aload_n hx hb hl 0 rfl dX11_init_252 rfl ?_
  refine x_sipush hx hb dX11_init_253 (by decide) ?_
  refine b_newaZ (N := 1024) hx hb hT hE hB wq242 rfl (by decide) (by decide) (by decide) dX11_init_256 (fun H hB => ?_)
  have hB := bB_n (n1 := 33) rfl hB
  refine b_putF (j := 50) hx hb hown hT hE hB cls_X11 0 (by decide) rfl (by decide) (fmL_31 h0) (fmS_31 h0) wq1235 rfl hnm rfl rfl rfl dX11_init_258 (fun H locs hB => ?_)
  refine x_aload_n hx hb hl 0 rfl dX11_init_261 rfl ?_
  refine b_pc (pc1 := 262) rfl ?_
  refine x_bipush hx hb dX11_init_262 (by decide) ?_
  refine b_newaI (N := 100) hx hb hT hE hB wq217 rfl (by decide) (by decide) (by decide) dX11_init_264 (fun H hB => ?_)
  have hB := bB_n (n1 := 34) rfl hB
  refine b_putF (j := 51) hx hb hown hT hE hB cls_X11 0 (by decide) rfl (by decide) (fmL_32 h0) (fmS_32 h0) wq1236 rfl hnm rfl rfl rfl dX11_init_266 (fun H locs hB => ?_)
  refine x_aload_n hx hb hl 0 rfl dX11_init_269 rfl ?_
  refine x_sipush hx hb dX11_init_270 (by decide) ?_
  refine b_newaI (N := 3100) hx hb hT hE hB wq217 rfl (by decide) (by decide) (by decide) dX11_init_273 (fun H hB => ?_)
  have hB := bB_n (n1 := 35) rfl hB
  refine b_putF (j := 52) hx hb hown hT hE hB cls_X11 0 (by decide) rfl (by decide) (fmL_33 h0) (fmS_33 h0) wq1237 rfl hnm rfl rfl rfl dX11_init_275 (fun H locs hB => ?_)
  refine x_aload_n hx hb hl 0 rfl dX11_init_278 rfl ?_
  refine x_sipush hx hb dX11_init_279 (by decide) ?_
  refine b_newaI (N := 3100) hx hb hT hE hB wq217 rfl (by decide) (by decide) (by decide) dX11_init_282 (fun H hB => ?_)
  have hB := bB_n (n1 := 36) rfl hB
  refine b_putF (j := 53) hx hb hown hT hE hB cls_X11 0 (by decide) rfl (by decide) (fmL_34 h0) (fmS_34 h0) wq1238 rfl hnm rfl rfl rfl dX11_init_284 (fun H locs hB => ?_)
  refine x_aload_n hx hb hl 0 rfl dX11_init_287 rfl ?_
  refine b_pc (pc1 := 288) rfl ?_
  refine x_sipush hx hb dX11_init_288 (by decide) ?_
  refine b_newaI (N := 10000) hx hb hT hE hB wq217 rfl (by decide) (by decide) (by decide) dX11_init_291 (fun H hB => ?_)
  have hB := bB_n (n1 := 37) rfl hB
  refine b_putF (j := 54) hx hb hown hT hE hB cls_X11 0 (by decide) rfl (by decide) (fmL_35 h0) (fmS_35 h0) wq1239 rfl hnm rfl rfl rfl dX11_init_293 (fun H locs hB => ?_)
  refine x_aload_n hx hb hl 0 rfl dX11_init_296 rfl ?_
  refine x_bipush hx hb dX11_init_297 (by decide) ?_
  refine b_newaI (N := 100) hx hb hT hE hB wq217 rfl (by decide) (by decide) (by decide) dX11_init_299 (fun H hB => ?_)
  have hB := bB_n (n1 := 38) rfl hB
  refine b_putF (j := 55) hx hb hown hT hE hB cls_X11 0 (by decide) rfl (by decide) (fmL_36 h0) (fmS_36 h0) wq1240 rfl hnm rfl rfl rfl dX11_init_301 (fun H locs hB => ?_)
  refine x_aload_n hx hb hl 0 rfl dX11_init_304 rfl ?_
  refine x_bipush hx hb dX11_init_305 (by decide) ?_
  refine b_newaI (N := 8) hx hb hT hE hB wq217 rfl (by decide) (by decide) (by decide) dX11_init_307 (fun H hB => ?_)
  have hB := bB_n (n1 := 39) rfl hB
  refine b_putF (j := 56) hx hb hown hT hE hB cls_X11 0 (by decide) rfl (by decide) (fmL_37 h0) (fmS_37 h0) wq1241 rfl hnm rfl rfl rfl dX11_init_309 (fun H locs hB => ?_)
  refine x_aload_n hx hb hl 0 rfl dX11_init_312 rfl ?_
  refine b_pc (pc1 := 313) rfl ?_
  refine x_bipush hx hb dX11_init_313 (by decide) ?_
  refine b_newaI (N := 8) hx hb hT hE hB wq217 rfl (by decide) (by decide) (by decide) dX11_init_315 (fun H hB => ?_)
  have hB := bB_n (n1 := 40) rfl hB
  refine b_putF (j := 57) hx hb hown hT hE hB cls_X11 0 (by decide) rfl (by decide) (fmL_38 h0) (fmS_38 h0) wq1242 rfl hnm rfl rfl rfl dX11_init_317 (fun H locs hB => ?_)
  refine x_aload_n hx hb hl 0 rfl dX11_init_320 rfl ?_
  refine x_iconst hx hb dX11_init_321 ?_
  refine b_newaI (N := 2) hx hb hT hE hB wq217 rfl (by decide) (by decide) (by decide) dX11_init_322 (fun H hB => ?_)
  have hB := bB_n (n1 := 41) rfl hB
  refine b_putF (j := 59) hx hb hown hT hE hB cls_X11 0 (by decide) rfl (by decide) (fmL_39 h0) (fmS_39 h0) wq1244 rfl hnm rfl rfl rfl dX11_init_324 (fun H locs hB => ?_)
  refine x_aload_n hx hb hl 0 rfl dX11_init_327 rfl ?_
  refine x_bipush hx hb dX11_init_328 (by decide) ?_
  refine b_newaB (N := 120) hx hb hT hE hB wq1369 rfl (by decide) (by decide) (by decide) dX11_init_330 (fun H hB => ?_)
  have hB := bB_n (n1 := 42) rfl hB
  refine b_putF (j := 60) hx hb hown hT hE hB cls_X11 0 (by decide) rfl (by decide) (fmL_40 h0) (fmS_40 h0) wq1245 rfl hnm rfl rfl rfl dX11_init_332 (fun H locs hB => ?_)
  refine x_aload_n hx hb hl 0 rfl dX11_init_335 rfl ?_
  refine b_pc (pc1 := 336) rfl ?_
  refine b_get (j := 0) (v := .ref (h0 + 268 + 1)) hx hb hown hT hE hB cls_X11 0 (by decide) rfl (by decide) rfl wq1185 dX11_init_336 ?_
  refine x_bipush hx hb dX11_init_339 (by decide) ?_
  refine x_iconst hx hb dX11_init_341 ?_
  refine b_iast hx hb hE hB 1 (by decide) rfl (by decide) (by decide) dX11_init_342 (fun H locs hB => ?_)
  refine x_aload_n hx hb hl 0 rfl dX11_init_343 rfl ?_
  refine x_iconst hx hb dX11_init_344 ?_
  refine b_put (j := 48) hx hb hown hT hE hB cls_X11 0 (by decide) rfl (by decide) (fmL_41 h0) (fmS_41 h0) wq1233 rfl rfl rfl dX11_init_345 (fun H locs hB => ?_)
  refine x_iconst hx hb dX11_init_348 ?_
  refine lv_istore_n (lv' := [(1, .int (xJ 0)), (0, .ref (h0 + 268))]) hx hb dX11_init_349 rfl hl (by decide) rfl (fun ls hl => ?_)
  refine x_iload_n hx hb hl 0 rfl dX11_init_350 rfl ?_
  refine x_iconst hx hb dX11_init_351 ?_
  refine x_icmp_ge (tgt := 368) hx hb (by decide) (by decide) dX11_init_352 (by decide) (fun h9 => absurd h9 (by decide)) (fun _ => ?_)
  refine b_pc (pc1 := 355) rfl ?_
  refine x_aload_n hx hb hl 1 rfl dX11_init_355 rfl ?_
  refine b_get (j := 4) (v := .ref (h0 + 268 + 5)) hx hb hown hT hE hB cls_X11 0 (by decide) rfl (by decide) rfl wq1189 dX11_init_356 ?_
  refine x_iload_n hx hb hl 0 rfl dX11_init_359 rfl ?_
  refine x_iconst hx hb dX11_init_360 ?_
  refine b_iast hx hb hE hB 5 (by decide) rfl (by decide) (by decide) dX11_init_361 (fun H locs hB => ?_)
  refine x_iinc (lv' := [(1, .int (xJ 1)), (0, .ref (h0 + 268))]) hx hb hl 0 rfl dX11_init_362 (by decide) rfl (fun ls hl => ?_)
  refine lv_goto (tgt := 350) hx hb dX11_init_365 (by decide) ?_
  refine x_iload_n hx hb hl 0 rfl dX11_init_350 rfl ?_
  refine x_iconst hx hb dX11_init_351 ?_
  refine x_icmp_ge (tgt := 368) hx hb (by decide) (by decide) dX11_init_352 (by decide) (fun h9 => absurd h9 (by decide)) (fun _ => ?_)
  refine x_aload_n hx hb hl 1 rfl dX11_init_355 rfl ?_
  refine b_get (j := 4) (v := .ref (h0 + 268 + 5)) hx hb hown hT hE hB cls_X11 0 (by decide) rfl (by decide) rfl wq1189 dX11_init_356 ?_
  refine b_pc (pc1 := 359) rfl ?_
  refine x_iload_n hx hb hl 0 rfl dX11_init_359 rfl ?_
  refine x_iconst hx hb dX11_init_360 ?_
  refine b_iast hx hb hE hB 5 (by decide) rfl (by decide) (by decide) dX11_init_361 (fun H locs hB => ?_)
  refine x_iinc (lv' := [(1, .int (xJ 2)), (0, .ref (h0 + 268))]) hx hb hl 0 rfl dX11_init_362 (by decide) rfl (fun ls hl => ?_)
  refine lv_goto (tgt := 350) hx hb dX11_init_365 (by decide) ?_
  refine x_iload_n hx hb hl 0 rfl dX11_init_350 rfl ?_
  refine x_iconst hx hb dX11_init_351 ?_
  refine x_icmp_ge (tgt := 368) hx hb (by decide) (by decide) dX11_init_352 (by decide) (fun h9 => absurd h9 (by decide)) (fun _ => ?_)
  refine x_aload_n hx hb hl 1 rfl dX11_init_355 rfl ?_
  refine b_get (j := 4) (v := .ref (h0 + 268 + 5)) hx hb hown hT hE hB cls_X11 0 (by decide) rfl (by decide) rfl wq1189 dX11_init_356 ?_
  refine x_iload_n hx hb hl 0 rfl dX11_init_359 rfl ?_
  refine x_iconst hx hb dX11_init_360 ?_
  refine b_pc (pc1 := 361) rfl ?_
  refine b_iast hx hb hE hB 5 (by decide) rfl (by decide) (by decide) dX11_init_361 (fun H locs hB => ?_)
  refine x_iinc (lv' := [(1, .int (xJ 3)), (0, .ref (h0 + 268))]) hx hb hl 0 rfl dX11_init_362 (by decide) rfl (fun ls hl => ?_)
  refine lv_goto (tgt := 350) hx hb dX11_init_365 (by decide) ?_
  refine x_iload_n hx hb hl 0 rfl dX11_init_350 rfl ?_
  refine x_iconst hx hb dX11_init_351 ?_
  refine x_icmp_ge (tgt := 368) hx hb (by decide) (by decide) dX11_init_352 (by decide) (fun h9 => absurd h9 (by decide)) (fun _ => ?_)
  refine x_aload_n hx hb hl 1 rfl dX11_init_355 rfl ?_
  refine b_get (j := 4) (v := .ref (h0 + 268 + 5)) hx hb hown hT hE hB cls_X11 0 (by decide) rfl (by decide) rfl wq1189 dX11_init_356 ?_
  refine x_iload_n hx hb hl 0 rfl dX11_init_359 rfl ?_
  refine x_iconst hx hb dX11_init_360 ?_
  refine b_iast hx hb hE hB 5 (by decide) rfl (by decide) (by decide) dX11_init_361 (fun H locs hB => ?_)
  refine x_iinc (lv' := [(1, .int (xJ 4)), (0, .ref (h0 + 268))]) hx hb hl 0 rfl dX11_init_362 (by decide) rfl (fun ls hl => ?_)
  refine b_pc (pc1 := 365) rfl ?_
  refine lv_goto (tgt := 350) hx hb dX11_init_365 (by decide) ?_
  refine x_iload_n hx hb hl 0 rfl dX11_init_350 rfl ?_
  refine x_iconst hx hb dX11_init_351 ?_
  refine x_icmp_ge (tgt := 368) hx hb (by decide) (by decide) dX11_init_352 (by decide) (fun _ => ?_) (fun h9 => absurd h9 (by decide))
  have hB := bB_arr (k := 1) (f' := fun j => xJ (xI 269 j)) hB rfl (by decide +kernel)
  have hB := bB_arr (k := 5) (f' := fun j => xJ (xI 273 j)) hB rfl (by decide +kernel)
  subst eQ
  refine b_vret hx hb hr hlk hB ?_ rfl rfl dX11_init_368
  refine allS ?_ rfl
  refine allS ?_ rfl
  refine allS ?_ rfl
  refine allS ?_ rfl
  refine allS ?_ rfl
  refine allS ?_ rfl
  refine allS ?_ rfl
  refine allS ?_ rfl
  refine allS ?_ rfl
  refine allS ?_ rfl
  refine allS ?_ rfl
  refine allS ?_ rfl
  refine allS ?_ rfl
  refine allS ?_ rfl
  refine allS ?_ rfl
  refine allS ?_ rfl
  refine allS ?_ rfl
  refine allS ?_ rfl
  refine allS ?_ rfl
  refine allS ?_ rfl
  refine allS ?_ rfl
  refine allS ?_ rfl
  refine allS ?_ rfl
  refine allS ?_ rfl
  refine allS ?_ rfl
  refine allS ?_ rfl
  refine allS ?_ rfl
  refine allS ?_ rfl
  refine allS ?_ rfl
  refine allS ?_ rfl
  refine allS ?_ rfl
  refine allS ?_ rfl
  refine allS ?_ rfl
  refine allS ?_ rfl
  refine allS ?_ rfl
  refine allS ?_ rfl
  refine allS ?_ rfl
  refine allS ?_ rfl
  refine allS ?_ rfl
  refine allS ?_ rfl
  refine allS ?_ rfl
  refine allS ?_ rfl
  exact allZ
