/-! ===== blocks, and all runs ===== -/
def xcF (n : Nat) : Nat → List Value → xH → xR := fun j as h => if xcg j as h = true then xF n j 0 (xent j as) [] h else none
theorem xcF_len {n j : Nat} {as : List Value} {h h' : xH} {v : Option Value} (q : xcF n j as h = some (v, h')) : h.length ≤ h'.length ∧ xslo h ≤ xslo h' := by
  unfold xcF at q
  split at q
  · exact xF_len _ _ _ _ _ _ _ _ q
  · cases q
theorem xBF_len {n i : Nat} {b : List xI} {L : xL} {st : xS} {h h' : xH} {v : Option Value} (e : xB (xcF n) (fun pc L st h => xF n i pc L st h) b L st h = some (v, h')) : h.length ≤ h'.length ∧ xslo h ≤ xslo h' :=
  xB_len (fun _ _ _ _ _ q => xcF_len q) (fun _ _ _ _ _ _ q => xF_len _ _ _ _ _ _ _ _ q) _ _ _ _ _ _ e
theorem xBlk {n : Nat} (IH : xSound n) {p : Program} {l : Launch} {e : Env} {R : Room} {s : State} {m : MethodId} {args : Array Value} {below : List Frame} {meth : Method} {c : Code} {Q : State → Prop} {bs bS bM Ls : Nat} {xs : Nat → Int32} {cA : Nat → ClassId} {Dg : va_G} {i : Nat} {h0 h' : xH} {v : Option Value}
    (act : xAct bs bS bM Ls xs cA Dg i h0 p R s m args meth c) (hc : h'.length ≤ h0.length + R.cells) (hs : xslo h' ≤ xslo h0 + R.slots) (hret : xRet bs bS bM Ls xs cA Dg i h0 v h' p l e R s m args below meth c Q) :
    ∀ (b : List xI) (pc : Nat) (L : xL) (st : xS) (h : xH), xckB i pc b = true → xB (xcF n) (fun pc L st h => xF n i pc L st h) b L st h = some (v, h') →
    ∀ {ls : Array Slot} {H : Heap} {locs : List Loc} {cells slots : Nat}, xOn bs bS bM Ls xs cA Dg i h0 s L h ls H locs cells slots → W p l e R s m args below meth c H locs cells slots Q (F0 m pc ls (st.map (xv (xi bs bS bM)))) := by
  intro b
  induction b with
  | nil => intro pc L st h hk hr ls H locs cells slots o; simp [xB] at hr
  | cons ins t ih =>
    intro pc L st h hk hr ls H locs cells slots o
    have hx := act.1
    have hb := act.2.1
    cases ins with
    | inl q =>
      rw [xckB] at hk
      split at hk
      · next raw len hd =>
        rw [Bool.and_eq_true] at hk
        simp only [xB] at hr
        obtain ⟨⟨L2, st2, h2⟩, g1, g2⟩ := Option.bind_eq_some_iff.mp hr
        obtain ⟨l1, l2⟩ := xBF_len g2
        simp only at l1 l2
        exact xP_ok q act hd hk.1 g1 (by omega) (by omega) o (fun ls' H' locs' cells' slots' o' => ih _ _ _ _ hk.2 g2 o')
      · cases hk
    | inr d =>
      cases d with
      | goto_w u =>
        rw [xckB] at hk
        have hu : u = (pc : Int) := eq_of_beq hk
        subst hu
        simp only [xB, Int.toNat_natCast] at hr
        exact IH i pc L st h v h' hr act hc hs hret o
      | goto u =>
        rw [xckB] at hk
        split at hk
        · next raw len hd =>
          rw [Bool.and_eq_true] at hk
          have hk1 := hk.1
          simp only [xB] at hr
          cases raw with
          | goto o1 =>
            simp only [xckc, Bool.and_eq_true, beq_iff_eq, decide_eq_true_eq] at hk1
            obtain ⟨rfl, ht, h0t⟩ := hk1
            exact lv_goto (tgt := u.toNat) hx hb hd (by omega) (IH i _ L st h v h' hr act hc hs hret o)
          | _ => simp [xckc] at hk1
        · cases hk
        · intro t' hh; cases hh
      | ifCond d u =>
        rw [xckB] at hk
        split at hk
        · next raw len hd =>
          rw [Bool.and_eq_true] at hk
          have hk1 := hk.1
          have hk2 : xckB i (pc + len) t = true := by simpa [xend] using hk.2
          simp only [xB] at hr
          split at hr
          · next a st' =>
            cases raw with
            | ifCond d2 o1 =>
              simp only [xckc, Bool.and_eq_true, beq_iff_eq, decide_eq_true_eq] at hk1
              obtain ⟨rfl, rfl, ht, h0t⟩ := hk1
              have kt : xcnd d a 0 = true → W p l e R s m args below meth c H locs cells slots Q (F0 m u.toNat ls (st'.map (xv (xi bs bS bM)))) := fun hh => by
                rw [if_pos hh] at hr
                exact IH i _ L st' h v h' hr act hc hs hret o
              have kf : ¬ xcnd d a 0 = true → W p l e R s m args below meth c H locs cells slots Q (F0 m (pc + 3) ls (st'.map (xv (xi bs bS bM)))) := fun hh => by
                rw [if_neg hh] at hr
                exact ih _ _ _ _ hk2 hr o
              cases d with
              | eq => exact lv_if_eq (tgt := u.toNat) hx hb hd (by omega) (fun z => kt (decide_eq_true z)) (fun z => kf (fun y => z (of_decide_eq_true y)))
              | ne => exact lv_if_ne (tgt := u.toNat) hx hb hd (by omega) (fun z => kt (decide_eq_true z)) (fun z => kf (fun y => (of_decide_eq_true y) z))
              | lt => exact lv_if_lt (tgt := u.toNat) hx hb hd (by omega) (fun z => kt (decide_eq_true z)) (fun z => kf (fun y => z (of_decide_eq_true y)))
              | ge => exact lv_if_ge (tgt := u.toNat) hx hb hd (by omega) (fun z => kt (decide_eq_true z)) (fun z => kf (fun y => z (of_decide_eq_true y)))
              | gt => exact lv_if_gt (tgt := u.toNat) hx hb hd (by omega) (fun z => kt (decide_eq_true z)) (fun z => kf (fun y => z (of_decide_eq_true y)))
              | le => exact lv_if_le (tgt := u.toNat) hx hb hd (by omega) (fun z => kt (decide_eq_true z)) (fun z => kf (fun y => z (of_decide_eq_true y)))
            | _ => simp [xckc] at hk1
          · cases hr
        · cases hk
        · intro t' hh; cases hh
      | if_icmp d u =>
        rw [xckB] at hk
        split at hk
        · next raw len hd =>
          rw [Bool.and_eq_true] at hk
          have hk1 := hk.1
          have hk2 : xckB i (pc + len) t = true := by simpa [xend] using hk.2
          simp only [xB] at hr
          split at hr
          · next b2 a st' =>
            cases raw with
            | if_icmp d2 o1 =>
              simp only [xckc, Bool.and_eq_true, beq_iff_eq, decide_eq_true_eq] at hk1
              obtain ⟨rfl, rfl, ht, h0t⟩ := hk1
              have kt : xcnd d a b2 = true → W p l e R s m args below meth c H locs cells slots Q (F0 m u.toNat ls (st'.map (xv (xi bs bS bM)))) := fun hh => by
                rw [if_pos hh] at hr
                exact IH i _ L st' h v h' hr act hc hs hret o
              have kf : ¬ xcnd d a b2 = true → W p l e R s m args below meth c H locs cells slots Q (F0 m (pc + 3) ls (st'.map (xv (xi bs bS bM)))) := fun hh => by
                rw [if_neg hh] at hr
                exact ih _ _ _ _ hk2 hr o
              cases d with
              | eq => exact lv_icmp_eq (tgt := u.toNat) hx hb hd (by omega) (fun z => kt (decide_eq_true z)) (fun z => kf (fun y => z (of_decide_eq_true y)))
              | ne => exact lv_icmp_ne (tgt := u.toNat) hx hb hd (by omega) (fun z => kt (decide_eq_true z)) (fun z => kf (fun y => (of_decide_eq_true y) z))
              | lt => exact lv_icmp_lt (tgt := u.toNat) hx hb hd (by omega) (fun z => kt (decide_eq_true z)) (fun z => kf (fun y => z (of_decide_eq_true y)))
              | ge => exact lv_icmp_ge (tgt := u.toNat) hx hb hd (by omega) (fun z => kt (decide_eq_true z)) (fun z => kf (fun y => z (of_decide_eq_true y)))
              | gt => exact lv_icmp_gt (tgt := u.toNat) hx hb hd (by omega) (fun z => kt (decide_eq_true z)) (fun z => kf (fun y => z (of_decide_eq_true y)))
              | le => exact lv_icmp_le (tgt := u.toNat) hx hb hd (by omega) (fun z => kt (decide_eq_true z)) (fun z => kf (fun y => z (of_decide_eq_true y)))
            | _ => simp [xckc] at hk1
          · cases hr
        · cases hk
        · intro t' hh; cases hh
      | lookupswitch d ps =>
        rw [xckB] at hk
        split at hk
        · next raw len hd =>
          rw [Bool.and_eq_true] at hk
          have hk1 := hk.1
          simp only [xB] at hr
          split at hr
          · next a st' =>
            cases raw with
            | tableswitch dd lo hi offs =>
              simp only [xckc, Bool.and_eq_true, beq_iff_eq, decide_eq_true_eq] at hk1
              obtain ⟨rfl, h0d, hps, hhi, hall⟩ := hk1
              rw [hps] at hr hall
              by_cases hin : lo ≤ a.toInt ∧ a.toInt < lo + offs.toList.length
              · obtain ⟨o1, q1, q2, q3⟩ := xsw_in pc ((pc : Int) + dd) a.toInt offs.toList lo hin.1 hin.2
                rw [q2] at hr
                have h0t := of_decide_eq_true (List.all_eq_true.mp hall _ q3)
                simp only at h0t
                rw [Array.getElem?_toList] at q1
                exact lv_tableIn (tgt := ((pc : Int) + o1).toNat) hx hb hd (by omega) (by omega) q1 (by omega) (IH i _ L st' h v h' hr act hc hs hret o)
              · rw [xsw_out pc _ a.toInt offs.toList lo (by omega)] at hr
                exact lv_tableOut (tgt := ((pc : Int) + dd).toNat) hx hb hd (by omega) (by omega) (IH i _ L st' h v h' hr act hc hs hret o)
            | _ => simp [xckc] at hk1
          · cases hr
        · cases hk
        · intro t' hh; cases hh
      | ireturn =>
        rw [xckB] at hk
        split at hk
        · next raw len hd =>
          rw [Bool.and_eq_true] at hk
          have hk1 := hk.1
          simp only [xB] at hr
          split at hr
          · next x =>
            cases hr
            cases raw with
            | ireturn =>
              simp only [xckc, Bool.and_eq_true, beq_iff_eq, decide_eq_true_eq] at hk1
              obtain ⟨rfl, ht⟩ := hk1
              exact hret pc _ ls H locs cells slots o.1 o.2.1 o.2.2.2.1 o.2.2.2.2 hd (Or.inl ⟨rfl, ht, _, rfl⟩)
            | _ => simp [xckc] at hk1
          · cases hr
        · cases hk
        · intro t' hh; cases hh
      | areturn =>
        rw [xckB] at hk
        split at hk
        · next raw len hd =>
          rw [Bool.and_eq_true] at hk
          have hk1 := hk.1
          simp only [xB] at hr
          split at hr
          · next x =>
            split at hr
            · next hx01 =>
              cases hr
              cases raw with
              | ireturn =>
                simp only [xckc, Bool.and_eq_true, beq_iff_eq, decide_eq_true_eq] at hk1
                obtain ⟨rfl, ht⟩ := hk1
                exact hret pc _ ls H locs cells slots o.1 o.2.1 o.2.2.2.1 o.2.2.2.2 hd (Or.inr (Or.inl ⟨rfl, ht, _, rfl, hx01⟩))
              | _ => simp [xckc] at hk1
            · cases hr
          · cases hr
        · cases hk
        · intro t' hh; cases hh
      | lreturn =>
        rw [xckB] at hk
        split at hk
        · next raw len hd =>
          rw [Bool.and_eq_true] at hk
          have hk1 := hk.1
          simp only [xB] at hr
          split at hr
          · next x =>
            cases hr
            cases raw with
            | lreturn =>
              simp only [xckc, Bool.and_eq_true, beq_iff_eq, decide_eq_true_eq] at hk1
              obtain ⟨rfl, ht⟩ := hk1
              exact hret pc _ ls H locs cells slots o.1 o.2.1 o.2.2.2.1 o.2.2.2.2 hd (Or.inr (Or.inr (Or.inl ⟨rfl, ht, _, rfl⟩)))
            | _ => simp [xckc] at hk1
          · cases hr
        · cases hk
        · intro t' hh; cases hh
      | return_ =>
        rw [xckB] at hk
        split at hk
        · next raw len hd =>
          rw [Bool.and_eq_true] at hk
          have hk1 := hk.1
          simp only [xB] at hr
          split at hr
          · cases hr
            cases raw with
            | return_ =>
              simp only [xckc, Bool.and_eq_true, beq_iff_eq, decide_eq_true_eq] at hk1
              obtain ⟨rfl, ht⟩ := hk1
              exact hret pc _ ls H locs cells slots o.1 o.2.1 o.2.2.2.1 o.2.2.2.2 hd (Or.inr (Or.inr (Or.inr ⟨rfl, ht, rfl⟩)))
            | _ => simp [xckc] at hk1
          · cases hr
        · cases hk
        · intro t' hh; cases hh
      | invokeinterface j k =>
        rw [xckB] at hk
        split at hk
        · next raw len hd =>
          rw [Bool.and_eq_true] at hk
          have hk1 := hk.1
          have hk2 : xckB i (pc + len) t = true := by simpa [xend] using hk.2
          simp only [xB] at hr
          split at hr
          · next hcnd =>
            obtain ⟨⟨v1, h1⟩, g1, g2⟩ := Option.bind_eq_some_iff.mp hr
            obtain ⟨l1, l2⟩ := xBF_len g2
            simp only at l1 l2
            unfold xcF at g1
            split at g1
            · next hg => exact xCall IH act hd hk1 hcnd.1 hcnd.2 hg g1 (by omega) (by omega) o (fun H' locs' cells' slots' o' => ih _ _ _ _ hk2 g2 o')
            · cases g1
          · cases hr
        · cases hk
        · intro t' hh; cases hh
      | _ => simp [xB] at hr
/-- SOUNDNESS -/
theorem xsound : ∀ n, xSound n := by
  intro n
  induction n with
  | zero => intro i pc L st h v h' hr; simp [xF] at hr
  | succ n IH =>
    intro i pc L st h v h' hr p l e R s m args below meth c Q bs bS bM Ls xs cA Dg h0 act hc hs hret ls H locs cells slots o
    rw [xF] at hr
    obtain ⟨b, hb, h2⟩ := Option.bind_eq_some_iff.mp hr
    exact xBlk IH act hc hs hret b pc L st h (xblk_ok hb) h2 o
