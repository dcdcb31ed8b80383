/-- the law's end -/
theorem l_out {p : Program} {e : Env} {s : State} {m : MethodId} {below : List Frame} {meth : Method} {c : Code} {l : Launch} {b h0 : Nat} {D : va_G} {g : xG} {H : Heap} {locs : List Loc} {ls : Array Slot} {cells slots : Nat} {σ : xS} (hx : p.tables.exec = Jvm.exec) (hb : c.code = cL_law) (hr : meth.sig.returnType = ret) (hlk : meth.locks = false) (eh : h0 = s.heap.size) (hW : xW D g h0 s H locs σ) (hcs : cells ≤ 600000 ∧ slots ≤ 7302250) : W p l e room_1 s m #[Value.ref b] below meth c H locs cells slots (lw_Z below #[Value.ref b] s) (F0 m 996 ls []) := by
  refine va_forget (fun q hq => by rw [← eh]; exact hW.2.2.2.2 q hq) ?_
  refine W.widen hcs.1 hcs.2 ?_
  refine x_iconst hx hb dL_law_996 ?_
  exact lw_ret hx hb hr hlk dL_law_997
set_option maxHeartbeats 4000000 in
theorem l_loop {p : Program} {e : Env} {s : State} {m : MethodId} {below : List Frame} {meth : Method} {c : Code} {l : Launch} {b h0 L : Nat} {xs : Nat → Int32} {D : va_G} {g : xG} {T : Nat × Nat × Nat} (hx : p.tables.exec = Jvm.exec) (hb : c.code = cL_law) (hr : meth.sig.returnType = ret) (hlk : meth.locks = false) (hml : c.maxLocals = 4) (hown : s.vm.findClass "ShadowCourtLaw" = some m.cls) (hT : ∀ w ∈ xTB, w.before #[Value.ref b] s = true) (hE : xE D g T h0 s) (hX : va_X b L xs s s.heap) (hbl : b < s.heap.size) (eh : h0 = s.heap.size) (hL : L ≤ 3072) :
    ∀ (k n : Nat) (i : Int) (σ : xS) (H : Heap) (locs : List Loc) (ls : Array Slot), L < 6 * n + 6 * k + 6 → 6 * n ≤ L → i = 6 * (n : Int) → lJ σ n → xW D g h0 s H locs σ → lv_has ls 4 [(3, .int (xJ i)), (2, .ref (h0 + 268)), (1, .ref (h0 + 0)), (0, .ref b)] → W p l e room_1 s m #[Value.ref b] below meth c H locs (1000 + n) (7000000 + 60 * n) (lw_Z below #[Value.ref b] s) (F0 m 18 ls []) := by
  intro k
  induction k with
  | zero =>
    intro n i σ H locs ls hk hn hi hJ hW hl
    refine x_iload_n hx hb hl 0 rfl dL_law_18 rfl ?_
    refine x_aload_n hx hb hl 3 rfl dL_law_19 rfl ?_
    refine l_slen hx hb hX hbl eh hW dL_law_20 ?_
    refine x_bipush hx hb dL_law_21 (by decide) ?_
    refine x_isub hx hb dL_law_23 ?_
    refine x_icmp_gt (tgt := 996) hx hb (by omega) (by omega) dL_law_24 (by decide) (fun _ => l_out hx hb hr hlk eh hW ⟨by omega, by omega⟩) (fun h9 => absurd h9 (by omega))
  | succ k ih =>
    intro n i σ H locs ls hk hn hi hJ hW hl
    refine x_iload_n hx hb hl 0 rfl dL_law_18 rfl ?_
    refine x_aload_n hx hb hl 3 rfl dL_law_19 rfl ?_
    refine l_slen hx hb hX hbl eh hW dL_law_20 ?_
    refine x_bipush hx hb dL_law_21 (by decide) ?_
    refine x_isub hx hb dL_law_23 ?_
    refine x_icmp_gt (tgt := 996) hx hb (by omega) (by omega) dL_law_24 (by decide) (fun _ => l_out hx hb hr hlk eh hW ⟨by omega, by omega⟩) (fun h9 => ?_)
    obtain ⟨a0, e0, r0⟩ := xJ_ex (xs i.toNat)
    refine x_aload_n hx hb hl 3 rfl dL_law_27 rfl ?_
    refine x_iload_n hx hb hl 0 rfl dL_law_28 rfl ?_
    refine l_sld hx hb hX hbl eh hW (by omega) hL e0 dL_law_29 ?_
    refine x_bipush hx hb dL_law_30 (by decide) ?_
    refine lv_iand hx hb dL_law_32 ?_
    obtain ⟨z, hz, ez⟩ := x_and31 (xJ a0)
    rw [ez]
    have hcs : 1000 + n ≤ 600000 ∧ 7000000 + 60 * n ≤ 7302250 := ⟨by omega, by omega⟩
    have hcs1 : 1000 + n + 1 ≤ 600000 ∧ 7000000 + 60 * n + 60 ≤ 7302250 := ⟨by omega, by omega⟩
    have kk : ∀ (H : Heap) (locs : List Loc) (τ : xS), lJ τ (n + 1) → xW D g h0 s H locs τ → W p l e room_1 s m #[Value.ref b] below meth c H locs (1000 + n + 1) (7000000 + 60 * n + 60) (lw_Z below #[Value.ref b] s) (F0 m 990 ls []) := fun H locs τ hJ hW => by
      refine x_iinc (lv' := [(3, .int (xJ (i + 6))), (2, .ref (h0 + 268)), (1, .ref (h0 + 0)), (0, .ref b)]) hx hb hl 0 rfl dL_law_990 (by decide) rfl (fun ls hl => ?_)
      refine lv_goto (tgt := 18) hx hb dL_law_993 (by decide) ?_
      have q := ih (n + 1) (i + 6) τ H locs ls (by omega) (by omega) (by omega) hJ hW hl
      rw [show 1000 + (n + 1) = 1000 + n + 1 from by omega, show 7000000 + 60 * (n + 1) = 7000000 + 60 * n + 60 from by omega] at q
      exact q
    have hnn : n ≤ 512 := by omega
    have hii : 0 ≤ i ∧ i + 5 < (L : Int) ∧ L ≤ 3072 := ⟨by omega, by omega, hL⟩
    by_cases hz9 : 25 < z
    · refine x_tabOut (tgt := 990) hx hb (by omega) dL_law_33 (Or.inr hz9) (by decide) ?_
      refine W.widen (k := 1000 + n + 1) (n := 7000000 + 60 * n + 60) (by omega) (by omega) ?_
      obtain ⟨jC, jn, jk, jo, j0, jz, jr⟩ := hJ
      exact kk _ _ _ ⟨jC, jn, jk, jo, j0, ⟨by omega, by omega⟩, jr⟩ hW
    rcases (by omega : z = 0 ∨ z = 1 ∨ z = 2 ∨ z = 3 ∨ z = 4 ∨ z = 5 ∨ z = 6 ∨ z = 7 ∨ z = 8 ∨ z = 9 ∨ z = 10 ∨ z = 11 ∨ z = 12 ∨ z = 13 ∨ z = 14 ∨ z = 15 ∨ z = 16 ∨ z = 17 ∨ z = 18 ∨ z = 19 ∨ z = 20 ∨ z = 21 ∨ z = 22 ∨ z = 23 ∨ z = 24 ∨ z = 25) with h9 | h9 | h9 | h9 | h9 | h9 | h9 | h9 | h9 | h9 | h9 | h9 | h9 | h9 | h9 | h9 | h9 | h9 | h9 | h9 | h9 | h9 | h9 | h9 | h9 | h9
    · exact x_tabIn (v := 0) (tgt := 152) hx hb (by omega) h9 dL_law_33 (by decide) rfl (by decide) (l_0 hx hb hml hown hT hE hX hbl eh hW hl hcs hcs1 hJ hnn hii kk)
    · exact x_tabIn (v := 1) (tgt := 215) hx hb (by omega) h9 dL_law_33 (by decide) rfl (by decide) (l_1 hx hb hml hown hT hE hX hbl eh hW hl hcs hcs1 hJ hnn hii kk)
    · exact x_tabIn (v := 2) (tgt := 238) hx hb (by omega) h9 dL_law_33 (by decide) rfl (by decide) (l_2 hx hb hml hown hT hE hX hbl eh hW hl hcs hcs1 hJ hnn hii kk)
    · exact x_tabIn (v := 3) (tgt := 261) hx hb (by omega) h9 dL_law_33 (by decide) rfl (by decide) (l_3 hx hb hml hown hT hE hX hbl eh hW hl hcs hcs1 hJ hnn hii kk)
    · exact x_tabIn (v := 4) (tgt := 304) hx hb (by omega) h9 dL_law_33 (by decide) rfl (by decide) (l_4 hx hb hml hown hT hE hX hbl eh hW hl hcs hcs1 hJ hnn hii kk)
    · exact x_tabIn (v := 5) (tgt := 337) hx hb (by omega) h9 dL_law_33 (by decide) rfl (by decide) (l_5 hx hb hml hown hT hE hX hbl eh hW hl hcs hcs1 hJ hnn hii kk)
    · exact x_tabIn (v := 6) (tgt := 390) hx hb (by omega) h9 dL_law_33 (by decide) rfl (by decide) (l_6 hx hb hml hown hT hE hX hbl eh hW hl hcs hcs1 hJ hnn hii kk)
    · exact x_tabIn (v := 7) (tgt := 433) hx hb (by omega) h9 dL_law_33 (by decide) rfl (by decide) (l_7 hx hb hml hown hT hE hX hbl eh hW hl hcs hcs1 hJ hnn hii kk)
    · exact x_tabIn (v := 8) (tgt := 456) hx hb (by omega) h9 dL_law_33 (by decide) rfl (by decide) (l_8 hx hb hml hown hT hE hX hbl eh hW hl hcs hcs1 hJ hnn hii kk)
    · exact x_tabIn (v := 9) (tgt := 489) hx hb (by omega) h9 dL_law_33 (by decide) rfl (by decide) (l_9 hx hb hml hown hT hE hX hbl eh hW hl hcs hcs1 hJ hnn hii kk)
    · exact x_tabIn (v := 10) (tgt := 522) hx hb (by omega) h9 dL_law_33 (by decide) rfl (by decide) (l_10 hx hb hml hown hT hE hX hbl eh hW hl hcs hcs1 hJ hnn hii kk)
    · exact x_tabIn (v := 11) (tgt := 555) hx hb (by omega) h9 dL_law_33 (by decide) rfl (by decide) (l_11 hx hb hml hown hT hE hX hbl eh hW hl hcs hcs1 hJ hnn hii kk)
    · exact x_tabIn (v := 12) (tgt := 578) hx hb (by omega) h9 dL_law_33 (by decide) rfl (by decide) (l_12 hx hb hml hown hT hE hX hbl eh hW hl hcs hcs1 hJ hnn hii kk)
    · exact x_tabIn (v := 13) (tgt := 621) hx hb (by omega) h9 dL_law_33 (by decide) rfl (by decide) (l_13 hx hb hml hown hT hE hX hbl eh hW hl hcs hcs1 hJ hnn hii kk)
    · exact x_tabIn (v := 14) (tgt := 664) hx hb (by omega) h9 dL_law_33 (by decide) rfl (by decide) (l_14 hx hb hml hown hT hE hX hbl eh hW hl hcs hcs1 hJ hnn hii kk)
    · exact x_tabIn (v := 15) (tgt := 697) hx hb (by omega) h9 dL_law_33 (by decide) rfl (by decide) (l_15 hx hb hml hown hT hE hX hbl eh hW hl hcs hcs1 hJ hnn hii kk)
    · exact x_tabIn (v := 16) (tgt := 730) hx hb (by omega) h9 dL_law_33 (by decide) rfl (by decide) (l_16 hx hb hml hown hT hE hX hbl eh hW hl hcs hcs1 hJ hnn hii kk)
    · exact x_tabIn (v := 17) (tgt := 753) hx hb (by omega) h9 dL_law_33 (by decide) rfl (by decide) (l_17 hx hb hml hown hT hE hX hbl eh hW hl hcs hcs1 hJ hnn hii kk)
    · exact x_tabIn (v := 18) (tgt := 786) hx hb (by omega) h9 dL_law_33 (by decide) rfl (by decide) (l_18 hx hb hml hown hT hE hX hbl eh hW hl hcs hcs1 hJ hnn hii kk)
    · exact x_tabIn (v := 19) (tgt := 829) hx hb (by omega) h9 dL_law_33 (by decide) rfl (by decide) (l_19 hx hb hml hown hT hE hX hbl eh hW hl hcs hcs1 hJ hnn hii kk)
    · exact x_tabIn (v := 20) (tgt := 862) hx hb (by omega) h9 dL_law_33 (by decide) rfl (by decide) (l_20 hx hb hml hown hT hE hX hbl eh hW hl hcs hcs1 hJ hnn hii kk)
    · exact x_tabIn (v := 21) (tgt := 895) hx hb (by omega) h9 dL_law_33 (by decide) rfl (by decide) (l_21 hx hb hml hown hT hE hX hbl eh hW hl hcs hcs1 hJ hnn hii kk)
    · exact x_tabIn (v := 22) (tgt := 918) hx hb (by omega) h9 dL_law_33 (by decide) rfl (by decide) (l_22 hx hb hml hown hT hE hX hbl eh hW hl hcs hcs1 hJ hnn hii kk)
    · exact x_tabIn (v := 23) (tgt := 931) hx hb (by omega) h9 dL_law_33 (by decide) rfl (by decide) (l_23 hx hb hml hown hT hE hX hbl eh hW hl hcs hcs1 hJ hnn hii kk)
    · exact x_tabIn (v := 24) (tgt := 944) hx hb (by omega) h9 dL_law_33 (by decide) rfl (by decide) (l_24 hx hb hml hown hT hE hX hbl eh hW hl hcs hcs1 hJ hnn hii kk)
    · exact x_tabIn (v := 25) (tgt := 967) hx hb (by omega) h9 dL_law_33 (by decide) rfl (by decide) (l_25 hx hb hml hown hT hE hX hbl eh hW hl hcs hcs1 hJ hnn hii kk)
-- ===== YOUR PART BEGINS =====
set_option maxHeartbeats 4000000 in
/-- from the entry, for every script of at most 3072 ints, the law comes to its end with true -/
theorem whole_start {p : Program} {e : Env} {s : State} {m : MethodId} {below : List Frame} {meth : Method} {c : Code} (l : Launch) (hflags : l.flags = flags0) {b L : Nat} {xs : Nat → Int32} (hL : L ≤ 3072) (C0 : lw_At p s m meth c b L xs) : W p l e room_1 s m #[Value.ref b] below meth c s.heap [] 0 0 (lw_Z below #[Value.ref b] s) (entryFrame m ([Value.ref b] : List Value).toArray 4) := by
  obtain ⟨hx, hb, hr, hml, hown, hq, hX, hbl, hlk, hgv⟩ := C0
  have hb : c.code = cL_law := hb
  have hown : s.vm.findClass "ShadowCourtLaw" = some m.cls := hown
  have hT : ∀ w ∈ xTB, w.before #[Value.ref b] s = true := fun w hw => hq w (List.mem_filter.mp hw).1
  obtain ⟨D, g, T, hE, hO⟩ := en_W hq hgv
  suffices hh : ∀ ls : Array Slot, lv_has ls 4 [(0, .ref b)] → W p l e room_1 s m #[Value.ref b] below meth c s.heap [] 0 0 (lw_Z below #[Value.ref b] s) (F0 m 0 ls []) from by
    rw [lg_entry_eq]
    exact hh _ (lv_entry [Value.ref b] (n := 4) (Nat.le_of_ble_eq_true rfl))
  intro ls hl
  obtain ⟨h0, eh⟩ : ∃ h0, h0 = s.heap.size := ⟨_, rfl⟩
  rw [← eh] at hE
  generalize hHe : ([] : List Loc) = locs
  obtain ⟨H, eH⟩ : ∃ H, H = s.heap := ⟨_, rfl⟩
  rw [← eH]
  have hB : bB D h0 s H locs 0 (fun _ => .inr (10, [])) := ⟨⟨by rw [eH, eh]; rfl, fun k hk => absurd hk (Nat.not_lt_zero _)⟩, by rw [eH, ← hHe]; exact va_S.rf⟩
  refine b_new hx hb hown hT hE hB cls_X10 bz_X10 wq182 wq183 wq168 (by decide) (by decide) dL_law_0 (fun H hB => ?_)
  have hB := bB_n (n1 := 1) rfl hB
  refine lv_dup hx hb dL_law_3 rfl ?_
  refine b_go (b := h0) (n := 0) (b_run (b := h0) (n := 0) (As := []) hx hb hml hown hT hE hO hB rfl hl.1 cf_X10_init wq185 rfl wq184 (b_X10_0 l D g T h0) ⟨rfl, rfl, ⟨by decide, by decide⟩, ⟨by decide, by decide⟩⟩ rfl rfl (Nat.le_of_ble_eq_true rfl) dL_law_4) hB (fun H locs hB => ?_)
  have hB := bB_n (n1 := 268) rfl hB
  refine lv_astore_n (lv' := [(1, .ref (h0 + 0)), (0, .ref b)]) hx hb dL_law_7 rfl hl (by decide) rfl (fun ls hl => ?_)
  refine b_new hx hb hown hT hE hB cls_X11 bz_X11 wq1179 wq1180 wq179 (by decide) (by decide) dL_law_8 (fun H hB => ?_)
  have hB := bB_n (n1 := 269) rfl hB
  refine lv_dup hx hb dL_law_11 rfl ?_
  refine b_go (b := h0) (n := 268) (b_run (b := h0) (n := 268) (As := []) hx hb hml hown hT hE hO hB rfl hl.1 cf_X11_init wq1182 rfl wq1181 (b_X11_268 l D g T h0) ⟨rfl, rfl, ⟨by decide, by decide⟩, ⟨by decide, by decide⟩⟩ rfl rfl (Nat.le_of_ble_eq_true rfl) dL_law_12) hB (fun H locs hB => ?_)
  have hB := bB_n (n1 := 310) rfl hB
  refine lv_astore_n (lv' := [(2, .ref (h0 + 268)), (1, .ref (h0 + 0)), (0, .ref b)]) hx hb dL_law_15 rfl hl (by decide) rfl (fun ls hl => ?_)
  have hW : xW D g h0 s H locs xI := en_S hB
  clear hB
  refine W.widen (k := 1000 + 0) (n := 7000000 + 60 * 0) (Nat.le_of_ble_eq_true rfl) (Nat.le_of_ble_eq_true rfl) ?_
  refine x_iconst hx hb dL_law_16 ?_
  refine lv_istore_n (lv' := [(3, .int (xJ 0)), (2, .ref (h0 + 268)), (1, .ref (h0 + 0)), (0, .ref b)]) hx hb dL_law_17 rfl hl (by decide) rfl (fun ls hl => ?_)
  refine b_pc (pc1 := 18) rfl ?_
  exact l_loop hx hb hr hlk hml hown hT hE hX hbl eh hL 512 0 0 xI H locs ls (by omega) (by omega) (by omega) lJ_I hW hl
