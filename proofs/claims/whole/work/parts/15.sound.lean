section RG
variable {p : Program} {l : Launch} {e : Env} {Rm : Room} {s : State} {m : MethodId} {args : Array Value} {below : List Frame} {meth : Method} {cd : Code} {Q : State → Prop}
variable {own : String} {init : Bool} {bytes : ByteArray} {nL : Nat} {D : va_G} {cA : Nat → ClassId} {base MC MS d n0 : Nat} {ro : rQ} {ad0 : Nat → Nat}
variable {R : rR}
/-- what a return gives, to be shown once for a method, once for the law -/
def rRet (p : Program) (l : Launch) (e : Env) (Rm : Room) (s : State) (m : MethodId) (args : Array Value) (below : List Frame) (meth : Method) (cd : Code) (Q : State → Prop) (bytes : ByteArray) (D : va_G) (cA : Nat → ClassId) (base MC MS n0 : Nat) (ro : rQ) (ad0 : Nat → Nat) (R : rR) (ret : Option FieldType) : Prop :=
  ∀ (i : Instr) (aux : List Nat) (v : Option Value) (pc k z : Nat) (h : rH) (ad : Nat → Nat) (H : Heap) (locs : List Loc) (ls : Array Slot), ((i = .ireturn ∧ ∃ x : Int32, v = some (.int x) ∧ ((ret = some .int ∧ aux = [0]) ∨ (ret = some .boolean ∧ aux = [1] ∧ (x = 0 ∨ x = 1)))) ∨ (i = .lreturn ∧ ret = some .long ∧ ∃ x : Int64, v = some (.long x)) ∨ (i = .return_ ∧ ret = none ∧ v = none)) →
    decode bytes pc = .ok (i, 1) → R v h → k ≤ MC → z ≤ MS → rwld D cA base ro s H locs ad h → rxt MC n0 ad0 ad h → W p l e Rm s m args below meth cd H locs k z Q (F0 m pc ls v.toList)
theorem rclose {tb : List (Nat × rI)} {ret : Option FieldType} (X : rCtx p Rm s m args meth cd own init bytes nL D cA base MC MS d) (IH : rMet l D cA base ro d) (hok : tb.all (rchk own init bytes) = true) (hrt : rretB ret tb = true) (hnst : ∀ w ∈ rNst, va_Nw w s) (hvoid : ∀ (f : Nat) (q : rP), pgm[f]? = some q → q.1.name = "<init>" → q.2.2.2.1 = none)
    (hret : rRet p l e Rm s m args below meth cd Q bytes D cA base MC MS n0 ro ad0 R ret) (c : rK) (hs : rstp (rM ro d) R (rnext ro tb MC MS c) (rPr p l e Rm s m args below meth cd Q nL D cA base MC n0 ro ad0)) : rPr p l e Rm s m args below meth cd Q nL D cA base MC n0 ro ad0 c := by
  obtain ⟨pc, L, st, h, k, z⟩ := c
  unfold rnext at hs
  split at hs
  case h_2 => exact False.elim hs
  rename_i ee hf
  have hmem := rfind_mem hf
  have hck := List.all_eq_true.mp hok _ hmem
  have hr0 := List.all_eq_true.mp hrt _ hmem
  obtain ⟨i, aux, pos⟩ := ee
  unfold rchk at hck
  simp only [Bool.and_eq_true, decide_eq_true_eq] at hck
  obtain ⟨hd, hck⟩ := hck
  have hx := X.1
  have hb := X.2.1
  have hts := X.2.2.2.2.1
  have hown := X.2.2.2.1
  cases i with
  | iconst n => exact rk_push hs (fun ad H locs ls hl kk => lv_iconst hx hb hd (by simpa using hck) kk)
  | bipush n => exact rk_push hs (fun ad H locs ls hl kk => lv_bipush hx hb hd (by simpa using hck) kk)
  | sipush n => exact rk_push hs (fun ad H locs ls hl kk => lv_sipush hx hb hd (by simpa using hck) kk)
  | lconst n => exact rk_push hs (fun ad H locs ls hl kk => lv_lconst hx hb hd (by simpa using hck) kk)
  | ldc x =>
    dsimp only at hck
    split at hck
    · exact rk_push hs (fun ad H locs ls hl kk => lv_ldc hx hb hown (hts _ (rwordB_mem hck)) hd kk)
    · cases hck
  | ldc_w x =>
    dsimp only at hck
    split at hck
    · exact rk_push hs (fun ad H locs ls hl kk => lv_ldcw hx hb hown (hts _ (rwordB_mem hck)) hd kk)
    · cases hck
  | ldc2_w x =>
    dsimp only at hck
    split at hck
    · exact rk_push hs (fun ad H locs ls hl kk => lv_ldc2 hx hb hown (hts _ (rwordB_mem hck)) hd kk)
    · cases hck
  | iload_n n => exact rk_load hs (fun x rest H locs ls hl kk => lv_iload_n hx hb hd rfl hl kk)
  | iload n => exact rk_load hs (fun x rest H locs ls hl kk => lv_iload hx hb hd hl kk)
  | lload_n n => exact rk_loadL hs (fun x rest H locs ls hl kk => lv_lload_n hx hb hd rfl hl kk)
  | lload n => exact rk_loadL hs (fun x rest H locs ls hl kk => lv_lload hx hb hd hl kk)
  | aload_n n => exact rk_loadA hs (fun x rest H locs ls hl kk => lv_aload_n hx hb hd rfl hl kk)
  | istore_n n => exact rk_store hs (fun x rest H locs ls lv hl hi kk => lv_istore_n hx hb hd rfl hl hi rfl kk)
  | istore n => exact rk_store hs (fun x rest H locs ls lv hl hi kk => lv_istore hx hb hd hl hi rfl kk)
  | lstore_n n => exact rk_storeL hs (fun x rest H locs ls lv hl hi kk => lv_lstore_n hx hb hd rfl hl hi rfl kk)
  | lstore n => exact rk_storeL hs (fun x rest H locs ls lv hl hi kk => lv_lstore hx hb hd hl hi rfl kk)
  | astore_n n => exact rk_storeA hs (fun x rest H locs ls lv hl hi kk => lv_astore_n hx hb hd rfl hl hi rfl kk)
  | iinc n q =>
    have hc : Int32.ofInt q = rc aux := by simpa using hck
    exact rk_inc hs (fun x rest H locs ls lv j hl hj hi kk => lv_iinc hx hb hd hl hj (by rw [hc]) hi rfl kk)
  | iadd => exact rk_bin hs (fun x y rest H locs ls kk => lv_iadd hx hb hd kk)
  | isub => exact rk_bin hs (fun x y rest H locs ls kk => lv_isub hx hb hd kk)
  | imul => exact rk_bin hs (fun x y rest H locs ls kk => lv_imul hx hb hd kk)
  | iand => exact rk_bin hs (fun x y rest H locs ls kk => lv_iand hx hb hd kk)
  | ior => exact rk_bin hs (fun x y rest H locs ls kk => lv_ior hx hb hd kk)
  | ishl => exact rk_bin hs (fun x y rest H locs ls kk => lv_ishl hx hb hd kk)
  | ishr => exact rk_bin hs (fun x y rest H locs ls kk => lv_ishr hx hb hd kk)
  | iushr => exact rk_bin hs (fun x y rest H locs ls kk => lv_iushr hx hb hd rfl kk)
  | idiv => exact rk_div hs (fun x y rest H locs ls hy kk => lv_idiv hx hb hd hy kk)
  | irem => exact rk_div hs (fun x y rest H locs ls hy kk => lv_irem hx hb hd hy kk)
  | ladd => exact rk_binL hs (fun x y rest H locs ls kk => lv_ladd hx hb hd kk)
  | lsub => exact rk_binL hs (fun x y rest H locs ls kk => lv_lsub hx hb hd kk)
  | lmul => exact rk_binL hs (fun x y rest H locs ls kk => lv_lmul hx hb hd kk)
  | ldiv => exact rk_divL hs (fun x y rest H locs ls hy kk => lv_ldiv hx hb hd hy kk)
  | lrem => exact rk_divL hs (fun x y rest H locs ls hy kk => lv_lrem hx hb hd hy kk)
  | lcmp =>
    simp only [rop] at hs
    split at hs
    · exact fun ad H locs ls hw hx2 hl hn => W.lcmp hx hb hd (hs ad H locs ls hw hx2 hl hn)
    · exact False.elim hs
  | i2l =>
    simp only [rop] at hs
    split at hs
    · exact fun ad H locs ls hw hx2 hl hn => lv_i2l hx hb hd rfl (hs ad H locs ls hw hx2 hl hn)
    · exact False.elim hs
  | l2i =>
    simp only [rop] at hs
    split at hs
    · exact fun ad H locs ls hw hx2 hl hn => lv_l2i hx hb hd rfl (hs ad H locs ls hw hx2 hl hn)
    · exact False.elim hs
  | i2b =>
    simp only [rop] at hs
    split at hs
    · exact fun ad H locs ls hw hx2 hl hn => lv_i2b hx hb hd rfl (hs ad H locs ls hw hx2 hl hn)
    · exact False.elim hs
  | dup =>
    simp only [rop] at hs
    split at hs
    · exact fun ad H locs ls hw hx2 hl hn => lv_dup hx hb hd rfl (hs ad H locs ls hw hx2 hl hn)
    · exact fun ad H locs ls hw hx2 hl hn => lv_dup hx hb hd rfl (hs ad H locs ls hw hx2 hl hn)
    · exact False.elim hs
  | dup2 =>
    simp only [rop] at hs
    split at hs
    · exact fun ad H locs ls hw hx2 hl hn => lv_dup2_11 hx hb hd rfl rfl (hs ad H locs ls hw hx2 hl hn)
    · exact fun ad H locs ls hw hx2 hl hn => lv_dup2_2 hx hb hd rfl (hs ad H locs ls hw hx2 hl hn)
    · exact False.elim hs
  | iaload => exact rk_aldI X hd hs
  | laload => exact rk_aldL X hd hs
  | baload => exact rk_aldB X hd hs
  | aaload => exact rk_aldA X hd hs
  | iastore => exact rk_astI X hd hs
  | lastore => exact rk_astL X hd hs
  | bastore => exact rk_astB X hd hs
  | aastore => exact rk_astA X hd hs
  | arraylength => exact rk_alen X hd hs
  | getfield x =>
    dsimp only at hck
    split at hck
    · exact rk_getf X hck hd hs
    · cases hck
  | putfield x =>
    dsimp only at hck
    split at hck
    · simp only [Bool.and_eq_true, Bool.or_eq_true, decide_eq_true_eq] at hck
      exact rk_putf X hck.1 hck.2 hd hs
    · cases hck
  | getstatic x =>
    dsimp only at hck
    split at hck
    · rename_i r kd pp
      split at hck
      · simp only [Bool.and_eq_true] at hck
        exact fun ad H locs ls hw hx2 hl hn => va_gets hx hb hw.2.2.2.2.2.1 hw.2.2.1 hown (hts _ (rwordB_mem hck.2)) (fun _ h => h) hd (hs ad H locs ls hw hx2 hl hn)
      · simp only [Bool.and_eq_true] at hck
        exact fun ad H locs ls hw hx2 hl hn => va_gets hx hb hw.2.2.2.2.2.2.1 hw.2.2.1 hown (hts _ (rwordB_mem hck.2)) (fun _ h => h) hd (hs ad H locs ls hw hx2 hl hn)
      · simp only [Bool.and_eq_true] at hck
        exact fun ad H locs ls hw hx2 hl hn => va_getsN hx hb hw.2.2.2.2.2.2.2.1 hw.2.2.1 hown (va_Nw.use rfl (hnst _ (rnestB_mem hck.2))) (fun _ h => h) hd (hs ad H locs ls hw hx2 hl hn)
      · simp only [Bool.and_eq_true] at hck
        exact fun ad H locs ls hw hx2 hl hn => va_getsN hx hb hw.2.2.2.2.2.2.2.2.1 hw.2.2.1 hown (va_Nw.use rfl (hnst _ (rnestB_mem hck.2))) (fun _ h => h) hd (hs ad H locs ls hw hx2 hl hn)
      · cases hck
    · cases hck
  | new x =>
    dsimp only at hck
    split at hck
    · split at hck
      · rename_i C T N hC
        simp only [Bool.and_eq_true] at hck
        exact rk_newc X hC (rwordB_mem hck.1.1) (rwordB_mem hck.1.2) (rwordB_mem hck.2) hd hs
      · cases hck
    · cases hck
  | newarray a =>
    dsimp only at hck
    split at hck
    · exact rk_newa X (rwordB_mem hck) hd hs
    · cases hck
  | anewarray x =>
    dsimp only at hck
    split at hck
    · exact rk_newq X (rwordB_mem hck) hd hs
    · cases hck
  | ifCond cdn o =>
    dsimp only at hck
    split at hck
    · rename_i t
      have ht : (pc : Int) + o = (t : Int) := by simpa using hck
      simp only [rop, rjump] at hs
      split at hs
      · rename_i x st
        have hs2 := rk_br hs
        cases cdn with
        | eq => exact fun ad H locs ls hw hx2 hl hn => lv_if_eq hx hb hd ht (fun g => hs2.1 g ad H locs ls hw hx2 hl hn) (fun g => hs2.2 g ad H locs ls hw hx2 hl hn)
        | ne => exact fun ad H locs ls hw hx2 hl hn => lv_if_ne hx hb hd ht (fun g => hs2.1 g ad H locs ls hw hx2 hl hn) (fun g => hs2.2 g ad H locs ls hw hx2 hl hn)
        | lt => exact fun ad H locs ls hw hx2 hl hn => lv_if_lt hx hb hd ht (fun g => hs2.1 g ad H locs ls hw hx2 hl hn) (fun g => hs2.2 g ad H locs ls hw hx2 hl hn)
        | ge => exact fun ad H locs ls hw hx2 hl hn => lv_if_ge hx hb hd ht (fun g => hs2.1 g ad H locs ls hw hx2 hl hn) (fun g => hs2.2 g ad H locs ls hw hx2 hl hn)
        | gt => exact fun ad H locs ls hw hx2 hl hn => lv_if_gt hx hb hd ht (fun g => hs2.1 g ad H locs ls hw hx2 hl hn) (fun g => hs2.2 g ad H locs ls hw hx2 hl hn)
        | le => exact fun ad H locs ls hw hx2 hl hn => lv_if_le hx hb hd ht (fun g => hs2.1 g ad H locs ls hw hx2 hl hn) (fun g => hs2.2 g ad H locs ls hw hx2 hl hn)
      · exact False.elim hs
    · cases hck
  | if_icmp cdn o =>
    dsimp only at hck
    split at hck
    · rename_i t
      have ht : (pc : Int) + o = (t : Int) := by simpa using hck
      simp only [rop, rjump] at hs
      split at hs
      · rename_i y x st
        have hs2 := rk_br hs
        cases cdn with
        | eq => exact fun ad H locs ls hw hx2 hl hn => lv_icmp_eq hx hb hd ht (fun g => hs2.1 g ad H locs ls hw hx2 hl hn) (fun g => hs2.2 g ad H locs ls hw hx2 hl hn)
        | ne => exact fun ad H locs ls hw hx2 hl hn => lv_icmp_ne hx hb hd ht (fun g => hs2.1 g ad H locs ls hw hx2 hl hn) (fun g => hs2.2 g ad H locs ls hw hx2 hl hn)
        | lt => exact fun ad H locs ls hw hx2 hl hn => lv_icmp_lt hx hb hd ht (fun g => hs2.1 g ad H locs ls hw hx2 hl hn) (fun g => hs2.2 g ad H locs ls hw hx2 hl hn)
        | ge => exact fun ad H locs ls hw hx2 hl hn => lv_icmp_ge hx hb hd ht (fun g => hs2.1 g ad H locs ls hw hx2 hl hn) (fun g => hs2.2 g ad H locs ls hw hx2 hl hn)
        | gt => exact fun ad H locs ls hw hx2 hl hn => lv_icmp_gt hx hb hd ht (fun g => hs2.1 g ad H locs ls hw hx2 hl hn) (fun g => hs2.2 g ad H locs ls hw hx2 hl hn)
        | le => exact fun ad H locs ls hw hx2 hl hn => lv_icmp_le hx hb hd ht (fun g => hs2.1 g ad H locs ls hw hx2 hl hn) (fun g => hs2.2 g ad H locs ls hw hx2 hl hn)
      · exact False.elim hs
    · cases hck
  | goto o =>
    dsimp only at hck
    split at hck
    · rename_i t
      have ht : (pc : Int) + o = (t : Int) := by simpa using hck
      exact fun ad H locs ls hw hx2 hl hn => lv_goto hx hb hd ht (hs ad H locs ls hw hx2 hl hn)
    · cases hck
  | tableswitch dd lo hi os =>
    dsimp only at hck
    split at hck
    · rename_i len t ts
      simp only [Bool.and_eq_true, decide_eq_true_eq] at hck
      obtain ⟨⟨⟨ht, hlh⟩, hlen⟩, hts2⟩ := hck
      simp only [rop] at hs
      split at hs
      · rename_i d' ts' x st' heq
        cases heq
        intro ad H locs ls hw hx2 hl hn
        have hs3 := hs ad H locs ls hw hx2 hl hn
        by_cases hc : x.toInt < lo ∨ hi < x.toInt
        · have e1 : rsw t lo hi ts x = t := if_pos hc
          have hs4 : W p l e Rm s m args below meth cd H locs k z Q (F0 m (rsw t lo hi ts x) ls (st'.map (rv ad))) := hs3
          rw [e1] at hs4
          exact lv_tableOut hx hb hd hc ht hs4
        · have e1 : rsw t lo hi ts x = ts.getD (x.toInt - lo).toNat 0 := if_neg hc
          have hs4 : W p l e Rm s m args below meth cd H locs k z Q (F0 m (rsw t lo hi ts x) ls (st'.map (rv ad))) := hs3
          rw [e1] at hs4
          have h1 : ¬ x.toInt < lo := fun q => hc (Or.inl q)
          have h2 : ¬ hi < x.toInt := fun q => hc (Or.inr q)
          have hj : (x.toInt - lo).toNat < os.toList.length := by rw [hlen]; omega
          have hg : os[(x.toInt - lo).toNat]? = some (os.toList[(x.toInt - lo).toNat]) := by
            rw [← Array.getElem?_toList, List.getElem?_eq_getElem hj]
          refine lv_tableIn hx hb hd h1 h2 hg ?_ hs4
          have e2 := congrArg (fun l : List Int => l[(x.toInt - lo).toNat]?) hts2
          simp only [List.getElem?_map, List.getElem?_eq_getElem hj, Option.map_some] at e2
          rw [List.getD_eq_getElem?_getD]
          cases hq : ts[(x.toInt - lo).toNat]? with
          | none => rw [hq] at e2; cases e2
          | some w =>
            rw [hq] at e2
            simp only [Option.map_some, Option.some.injEq] at e2
            simpa using e2
      · exact False.elim hs
    · cases hck
  | invokestatic x => exact rk_istat X IH hck hnst hd hs
  | invokespecial x => exact rk_ispec X IH hck hnst hvoid hd hs
  | invokevirtual x => exact rk_ivirt X IH hck hnst hd hs
  | ireturn =>
    simp only [rop, rret] at hs
    cases hbb : Nat.ble k MC && Nat.ble z MS
    · rw [hbb] at hs; exact False.elim hs
    · rw [hbb] at hs
      simp only [Bool.and_eq_true] at hbb
      have hk := Nat.le_of_ble_eq_true hbb.1
      have hz := Nat.le_of_ble_eq_true hbb.2
      simp only [cond_true] at hs
      simp only [Bool.or_eq_true, Bool.and_eq_true, decide_eq_true_eq] at hr0
      split at hs
      · rename_i v
        exact fun ad H locs ls hw hx2 hl hn => hret .ireturn [0] (some (.int v)) pc k z h ad H locs ls (Or.inl ⟨rfl, v, rfl, Or.inl ⟨hr0.elim (fun q => q.1) (fun q => absurd q.2 (by decide)), rfl⟩⟩) hd hs.2 hk hz hw hx2
      · rename_i v
        exact fun ad H locs ls hw hx2 hl hn => hret .ireturn [1] (some (.int v)) pc k z h ad H locs ls (Or.inl ⟨rfl, v, rfl, Or.inr ⟨hr0.elim (fun q => absurd q.2 (by decide)) (fun q => q.1), rfl, hs.1⟩⟩) hd hs.2 hk hz hw hx2
      · rcases hr0 with q | q <;> cases q.2
      · rcases hr0 with q | q <;> cases q.2
      · exact False.elim hs
  | lreturn =>
    simp only [rop, rret] at hs
    cases hbb : Nat.ble k MC && Nat.ble z MS
    · rw [hbb] at hs; exact False.elim hs
    · rw [hbb] at hs
      simp only [Bool.and_eq_true] at hbb
      have hk := Nat.le_of_ble_eq_true hbb.1
      have hz := Nat.le_of_ble_eq_true hbb.2
      simp only [cond_true] at hs
      simp only [decide_eq_true_eq] at hr0 hck
      split at hs
      · cases hck
      · cases hck
      · rename_i v
        exact fun ad H locs ls hw hx2 hl hn => hret .lreturn [2] (some (.long v)) pc k z h ad H locs ls (Or.inr (Or.inl ⟨rfl, hr0, v, rfl⟩)) hd hs.2 hk hz hw hx2
      · cases hck
      · exact False.elim hs
  | return_ =>
    simp only [rop, rret] at hs
    cases hbb : Nat.ble k MC && Nat.ble z MS
    · rw [hbb] at hs; exact False.elim hs
    · rw [hbb] at hs
      simp only [Bool.and_eq_true] at hbb
      have hk := Nat.le_of_ble_eq_true hbb.1
      have hz := Nat.le_of_ble_eq_true hbb.2
      simp only [cond_true] at hs
      simp only [decide_eq_true_eq] at hr0 hck
      split at hs
      · cases hck
      · cases hck
      · cases hck
      · exact fun ad H locs ls hw hx2 hl hn => hret .return_ [3] none pc k z h ad H locs ls (Or.inr (Or.inr ⟨rfl, hr0, rfl⟩)) hd hs.2 hk hz hw hx2
      · exact False.elim hs
  | _ => exact False.elim hs
end RG
