set_option maxHeartbeats 4000000 in
set_option maxRecDepth 100000 in
theorem c5_longer (l : Launch) {S : List zC} {M : zM} {kd s m lf : Nat} (hk : kd ≤ 4) (hs : s ≤ 5) (hm : m ≤ 3) (hl : lf ≤ 9) : CT l false 1 0 0 yX5_longer cX5_longer 6 (some .int) [.int (nI kd), .int (nI s), .int (nI m), .int (nI lf)] S M (zF (some (.int (nI (lgr kd s m lf)))) S M) := by
  refine CT.ofN (by decide) (fun _ _ => Nat.le_of_ble_eq_true rfl) ?_
  refine r_iload_n dX5_longer_0 rfl rfl ?_
  first | refine r_if_neB (tgt := 6) dX5_longer_1 (by decide) (fun c1 => ?_) (fun c1 => ?_) | refine r_if_neN (tgt := 6) dX5_longer_1 (by decide) (by omega) (fun c1 => ?_) (fun c1 => ?_) | refine r_if_ne (tgt := 6) dX5_longer_1 (by decide) (fun c1 => ?_) (fun c1 => ?_)
  · refine r_iload_n dX5_longer_6 rfl rfl ?_
    refine r_iload_n dX5_longer_7 rfl rfl ?_
    refine r_cS2F ms_X5_shows ml_X5_51 (c5_shows l (by omega) (by omega)) dX5_longer_8 (Nat.le_of_ble_eq_true rfl) ⟨by decide, by decide⟩ ⟨by decide, by decide⟩ (fun _ h => nomatch h) ?_
    try dsimp only [zrst, List.cons_append, List.nil_append]
    first | refine r_if_eqB (tgt := 18) dX5_longer_11 (by decide) (fun c2 => ?_) (fun c2 => ?_) | refine r_if_eqN (tgt := 18) dX5_longer_11 (by decide) (by omega) (fun c2 => ?_) (fun c2 => ?_) | refine r_if_eq (tgt := 18) dX5_longer_11 (by decide) (fun c2 => ?_) (fun c2 => ?_)
    · refine r_iconst (v := nI 0) dX5_longer_18 rfl ?_
      refine r_istore dX5_longer_19 rfl (by decide) ?_
      refine r_iload_n dX5_longer_21 rfl rfl ?_
      first | refine r_if_neB (tgt := 29) dX5_longer_22 (by decide) (fun c3 => ?_) (fun c3 => ?_) | refine r_if_neN (tgt := 29) dX5_longer_22 (by decide) (by omega) (fun c3 => ?_) (fun c3 => ?_) | refine r_if_ne (tgt := 29) dX5_longer_22 (by decide) (fun c3 => ?_) (fun c3 => ?_)
      · refine r_iload_n dX5_longer_29 rfl rfl ?_
        refine r_iconst (v := nI 1) dX5_longer_30 rfl ?_
        first | refine r_icmp_neN (tgt := 49) dX5_longer_31 (by decide) (by omega) (by omega) (fun c4 => ?_) (fun c4 => ?_) | refine r_icmp_ne (tgt := 49) dX5_longer_31 (by decide) (fun c4 => ?_) (fun c4 => ?_)
        · refine r_iload dX5_longer_49 rfl ?_
          refine r_istore dX5_longer_51 rfl (by decide) ?_
          refine r_iload_n dX5_longer_53 rfl rfl ?_
          rcases (show kd = 0 ∨ kd = 1 ∨ kd = 2 ∨ kd = 3 ∨ kd = 4 by omega) with rfl | rfl | rfl | rfl | rfl
          · refine r_tabIn (off := 30) (tgt := 84) dX5_longer_54 (by decide) (by decide) (by decide) (by decide) ?_
            refine r_iload dX5_longer_84 rfl ?_
            refine r_iret dX5_longer_86 rfl (by decide) (by decide) ?_
            first
            | (exfalso; omega)
            | (refine ⟨congrArg (fun x => some (Value.int x)) (congrArg nI ?_), rfl, rfl⟩; simp only [lgr]; cases h1 : shw s m <;> cases h0 : shw s 0 <;> (try simp_all) <;> omega)
          · refine r_tabIn (off := 33) (tgt := 87) dX5_longer_54 (by decide) (by decide) (by decide) (by decide) ?_
            refine r_iload dX5_longer_87 rfl ?_
            first | refine r_if_neB (tgt := 96) dX5_longer_89 (by decide) (fun c5 => ?_) (fun c5 => ?_) | refine r_if_neN (tgt := 96) dX5_longer_89 (by decide) (by omega) (fun c5 => ?_) (fun c5 => ?_) | refine r_if_ne (tgt := 96) dX5_longer_89 (by decide) (fun c5 => ?_) (fun c5 => ?_)
            · refine r_iload dX5_longer_96 rfl ?_
              refine r_iconst (v := nI 1) dX5_longer_98 rfl ?_
              first | refine r_iaddN dX5_longer_99 ?_ | refine r_iadd dX5_longer_99 ?_
              refine r_iret dX5_longer_100 rfl (by decide) (by decide) ?_
              first
              | (exfalso; omega)
              | (refine ⟨congrArg (fun x => some (Value.int x)) (congrArg nI ?_), rfl, rfl⟩; simp only [lgr]; cases h1 : shw s m <;> cases h0 : shw s 0 <;> (try simp_all) <;> omega)
            · refine r_iconst (v := nI 0) dX5_longer_92 rfl ?_
              refine r_goto (tgt := 100) dX5_longer_93 (by decide) ?_
              refine r_iret dX5_longer_100 rfl (by decide) (by decide) ?_
              first
              | (exfalso; omega)
              | (refine ⟨congrArg (fun x => some (Value.int x)) (congrArg nI ?_), rfl, rfl⟩; simp only [lgr]; cases h1 : shw s m <;> cases h0 : shw s 0 <;> (try simp_all) <;> omega)
          · refine r_tabIn (off := 47) (tgt := 101) dX5_longer_54 (by decide) (by decide) (by decide) (by decide) ?_
            refine r_iload dX5_longer_101 rfl ?_
            refine r_iret dX5_longer_103 rfl (by decide) (by decide) ?_
            first
            | (exfalso; omega)
            | (refine ⟨congrArg (fun x => some (Value.int x)) (congrArg nI ?_), rfl, rfl⟩; simp only [lgr]; cases h1 : shw s m <;> cases h0 : shw s 0 <;> (try simp_all) <;> omega)
          · refine r_tabIn (off := 50) (tgt := 104) dX5_longer_54 (by decide) (by decide) (by decide) (by decide) ?_
            refine r_iload dX5_longer_104 rfl ?_
            first | refine r_if_neB (tgt := 113) dX5_longer_106 (by decide) (fun c6 => ?_) (fun c6 => ?_) | refine r_if_neN (tgt := 113) dX5_longer_106 (by decide) (by omega) (fun c6 => ?_) (fun c6 => ?_) | refine r_if_ne (tgt := 113) dX5_longer_106 (by decide) (fun c6 => ?_) (fun c6 => ?_)
            · refine r_iload dX5_longer_113 rfl ?_
              refine r_iconst (v := nI 1) dX5_longer_115 rfl ?_
              first | refine r_isubN dX5_longer_116 (by omega) ?_ | refine r_isub dX5_longer_116 ?_
              refine r_iret dX5_longer_117 rfl (by decide) (by decide) ?_
              first
              | (exfalso; omega)
              | (refine ⟨congrArg (fun x => some (Value.int x)) (congrArg nI ?_), rfl, rfl⟩; simp only [lgr]; cases h1 : shw s m <;> cases h0 : shw s 0 <;> (try simp_all) <;> omega)
            · refine r_iconst (v := nI 0) dX5_longer_109 rfl ?_
              refine r_goto (tgt := 117) dX5_longer_110 (by decide) ?_
              refine r_iret dX5_longer_117 rfl (by decide) (by decide) ?_
              first
              | (exfalso; omega)
              | (refine ⟨congrArg (fun x => some (Value.int x)) (congrArg nI ?_), rfl, rfl⟩; simp only [lgr]; cases h1 : shw s m <;> cases h0 : shw s 0 <;> (try simp_all) <;> omega)
          · refine r_tabOut (tgt := 118) dX5_longer_54 (by decide) (by decide) ?_
            refine r_iload dX5_longer_118 rfl ?_
            refine r_iconst (v := nI 2) dX5_longer_120 rfl ?_
            refine r_idivN dX5_longer_121 (by omega) (by omega) (by omega) ?_
            refine r_iret dX5_longer_122 rfl (by decide) (by decide) ?_
            first
            | (exfalso; omega)
            | (refine ⟨congrArg (fun x => some (Value.int x)) (congrArg nI ?_), rfl, rfl⟩; simp only [lgr]; cases h1 : shw s m <;> cases h0 : shw s 0 <;> (try simp_all) <;> omega)
        · refine r_iload_n dX5_longer_34 rfl rfl ?_
          refine r_iconst (v := nI 0) dX5_longer_35 rfl ?_
          refine r_cS2F ms_X5_shows ml_X5_51 (c5_shows l (by omega) (by omega)) dX5_longer_36 (Nat.le_of_ble_eq_true rfl) ⟨by decide, by decide⟩ ⟨by decide, by decide⟩ (fun _ h => nomatch h) ?_
          try dsimp only [zrst, List.cons_append, List.nil_append]
          first | refine r_if_eqB (tgt := 49) dX5_longer_39 (by decide) (fun c7 => ?_) (fun c7 => ?_) | refine r_if_eqN (tgt := 49) dX5_longer_39 (by decide) (by omega) (fun c7 => ?_) (fun c7 => ?_) | refine r_if_eq (tgt := 49) dX5_longer_39 (by decide) (fun c7 => ?_) (fun c7 => ?_)
          · refine r_iload dX5_longer_49 rfl ?_
            refine r_istore dX5_longer_51 rfl (by decide) ?_
            refine r_iload_n dX5_longer_53 rfl rfl ?_
            rcases (show kd = 0 ∨ kd = 1 ∨ kd = 2 ∨ kd = 3 ∨ kd = 4 by omega) with rfl | rfl | rfl | rfl | rfl
            · refine r_tabIn (off := 30) (tgt := 84) dX5_longer_54 (by decide) (by decide) (by decide) (by decide) ?_
              refine r_iload dX5_longer_84 rfl ?_
              refine r_iret dX5_longer_86 rfl (by decide) (by decide) ?_
              first
              | (exfalso; omega)
              | (refine ⟨congrArg (fun x => some (Value.int x)) (congrArg nI ?_), rfl, rfl⟩; simp only [lgr]; cases h1 : shw s m <;> cases h0 : shw s 0 <;> (try simp_all) <;> omega)
            · refine r_tabIn (off := 33) (tgt := 87) dX5_longer_54 (by decide) (by decide) (by decide) (by decide) ?_
              refine r_iload dX5_longer_87 rfl ?_
              first | refine r_if_neB (tgt := 96) dX5_longer_89 (by decide) (fun c8 => ?_) (fun c8 => ?_) | refine r_if_neN (tgt := 96) dX5_longer_89 (by decide) (by omega) (fun c8 => ?_) (fun c8 => ?_) | refine r_if_ne (tgt := 96) dX5_longer_89 (by decide) (fun c8 => ?_) (fun c8 => ?_)
              · refine r_iload dX5_longer_96 rfl ?_
                refine r_iconst (v := nI 1) dX5_longer_98 rfl ?_
                first | refine r_iaddN dX5_longer_99 ?_ | refine r_iadd dX5_longer_99 ?_
                refine r_iret dX5_longer_100 rfl (by decide) (by decide) ?_
                first
                | (exfalso; omega)
                | (refine ⟨congrArg (fun x => some (Value.int x)) (congrArg nI ?_), rfl, rfl⟩; simp only [lgr]; cases h1 : shw s m <;> cases h0 : shw s 0 <;> (try simp_all) <;> omega)
              · refine r_iconst (v := nI 0) dX5_longer_92 rfl ?_
                refine r_goto (tgt := 100) dX5_longer_93 (by decide) ?_
                refine r_iret dX5_longer_100 rfl (by decide) (by decide) ?_
                first
                | (exfalso; omega)
                | (refine ⟨congrArg (fun x => some (Value.int x)) (congrArg nI ?_), rfl, rfl⟩; simp only [lgr]; cases h1 : shw s m <;> cases h0 : shw s 0 <;> (try simp_all) <;> omega)
            · refine r_tabIn (off := 47) (tgt := 101) dX5_longer_54 (by decide) (by decide) (by decide) (by decide) ?_
              refine r_iload dX5_longer_101 rfl ?_
              refine r_iret dX5_longer_103 rfl (by decide) (by decide) ?_
              first
              | (exfalso; omega)
              | (refine ⟨congrArg (fun x => some (Value.int x)) (congrArg nI ?_), rfl, rfl⟩; simp only [lgr]; cases h1 : shw s m <;> cases h0 : shw s 0 <;> (try simp_all) <;> omega)
            · refine r_tabIn (off := 50) (tgt := 104) dX5_longer_54 (by decide) (by decide) (by decide) (by decide) ?_
              refine r_iload dX5_longer_104 rfl ?_
              first | refine r_if_neB (tgt := 113) dX5_longer_106 (by decide) (fun c9 => ?_) (fun c9 => ?_) | refine r_if_neN (tgt := 113) dX5_longer_106 (by decide) (by omega) (fun c9 => ?_) (fun c9 => ?_) | refine r_if_ne (tgt := 113) dX5_longer_106 (by decide) (fun c9 => ?_) (fun c9 => ?_)
              · refine r_iload dX5_longer_113 rfl ?_
                refine r_iconst (v := nI 1) dX5_longer_115 rfl ?_
                first | refine r_isubN dX5_longer_116 (by omega) ?_ | refine r_isub dX5_longer_116 ?_
                refine r_iret dX5_longer_117 rfl (by decide) (by decide) ?_
                first
                | (exfalso; omega)
                | (refine ⟨congrArg (fun x => some (Value.int x)) (congrArg nI ?_), rfl, rfl⟩; simp only [lgr]; cases h1 : shw s m <;> cases h0 : shw s 0 <;> (try simp_all) <;> omega)
              · refine r_iconst (v := nI 0) dX5_longer_109 rfl ?_
                refine r_goto (tgt := 117) dX5_longer_110 (by decide) ?_
                refine r_iret dX5_longer_117 rfl (by decide) (by decide) ?_
                first
                | (exfalso; omega)
                | (refine ⟨congrArg (fun x => some (Value.int x)) (congrArg nI ?_), rfl, rfl⟩; simp only [lgr]; cases h1 : shw s m <;> cases h0 : shw s 0 <;> (try simp_all) <;> omega)
            · refine r_tabOut (tgt := 118) dX5_longer_54 (by decide) (by decide) ?_
              refine r_iload dX5_longer_118 rfl ?_
              refine r_iconst (v := nI 2) dX5_longer_120 rfl ?_
              refine r_idivN dX5_longer_121 (by omega) (by omega) (by omega) ?_
              refine r_iret dX5_longer_122 rfl (by decide) (by decide) ?_
              first
              | (exfalso; omega)
              | (refine ⟨congrArg (fun x => some (Value.int x)) (congrArg nI ?_), rfl, rfl⟩; simp only [lgr]; cases h1 : shw s m <;> cases h0 : shw s 0 <;> (try simp_all) <;> omega)
          · refine r_iload dX5_longer_42 rfl ?_
            refine r_iload_n dX5_longer_44 rfl rfl ?_
            first | refine r_iaddN dX5_longer_45 ?_ | refine r_iadd dX5_longer_45 ?_
            refine r_goto (tgt := 51) dX5_longer_46 (by decide) ?_
            refine r_istore dX5_longer_51 rfl (by decide) ?_
            refine r_iload_n dX5_longer_53 rfl rfl ?_
            rcases (show kd = 0 ∨ kd = 1 ∨ kd = 2 ∨ kd = 3 ∨ kd = 4 by omega) with rfl | rfl | rfl | rfl | rfl
            · refine r_tabIn (off := 30) (tgt := 84) dX5_longer_54 (by decide) (by decide) (by decide) (by decide) ?_
              refine r_iload dX5_longer_84 rfl ?_
              refine r_iret dX5_longer_86 rfl (by decide) (by decide) ?_
              first
              | (exfalso; omega)
              | (refine ⟨congrArg (fun x => some (Value.int x)) (congrArg nI ?_), rfl, rfl⟩; simp only [lgr]; cases h1 : shw s m <;> cases h0 : shw s 0 <;> (try simp_all) <;> omega)
            · refine r_tabIn (off := 33) (tgt := 87) dX5_longer_54 (by decide) (by decide) (by decide) (by decide) ?_
              refine r_iload dX5_longer_87 rfl ?_
              first | refine r_if_neB (tgt := 96) dX5_longer_89 (by decide) (fun c10 => ?_) (fun c10 => ?_) | refine r_if_neN (tgt := 96) dX5_longer_89 (by decide) (by omega) (fun c10 => ?_) (fun c10 => ?_) | refine r_if_ne (tgt := 96) dX5_longer_89 (by decide) (fun c10 => ?_) (fun c10 => ?_)
              · refine r_iload dX5_longer_96 rfl ?_
                refine r_iconst (v := nI 1) dX5_longer_98 rfl ?_
                first | refine r_iaddN dX5_longer_99 ?_ | refine r_iadd dX5_longer_99 ?_
                refine r_iret dX5_longer_100 rfl (by decide) (by decide) ?_
                first
                | (exfalso; omega)
                | (refine ⟨congrArg (fun x => some (Value.int x)) (congrArg nI ?_), rfl, rfl⟩; simp only [lgr]; cases h1 : shw s m <;> cases h0 : shw s 0 <;> (try simp_all) <;> omega)
              · refine r_iconst (v := nI 0) dX5_longer_92 rfl ?_
                refine r_goto (tgt := 100) dX5_longer_93 (by decide) ?_
                refine r_iret dX5_longer_100 rfl (by decide) (by decide) ?_
                first
                | (exfalso; omega)
                | (refine ⟨congrArg (fun x => some (Value.int x)) (congrArg nI ?_), rfl, rfl⟩; simp only [lgr]; cases h1 : shw s m <;> cases h0 : shw s 0 <;> (try simp_all) <;> omega)
            · refine r_tabIn (off := 47) (tgt := 101) dX5_longer_54 (by decide) (by decide) (by decide) (by decide) ?_
              refine r_iload dX5_longer_101 rfl ?_
              refine r_iret dX5_longer_103 rfl (by decide) (by decide) ?_
              first
              | (exfalso; omega)
              | (refine ⟨congrArg (fun x => some (Value.int x)) (congrArg nI ?_), rfl, rfl⟩; simp only [lgr]; cases h1 : shw s m <;> cases h0 : shw s 0 <;> (try simp_all) <;> omega)
            · refine r_tabIn (off := 50) (tgt := 104) dX5_longer_54 (by decide) (by decide) (by decide) (by decide) ?_
              refine r_iload dX5_longer_104 rfl ?_
              first | refine r_if_neB (tgt := 113) dX5_longer_106 (by decide) (fun c11 => ?_) (fun c11 => ?_) | refine r_if_neN (tgt := 113) dX5_longer_106 (by decide) (by omega) (fun c11 => ?_) (fun c11 => ?_) | refine r_if_ne (tgt := 113) dX5_longer_106 (by decide) (fun c11 => ?_) (fun c11 => ?_)
              · refine r_iload dX5_longer_113 rfl ?_
                refine r_iconst (v := nI 1) dX5_longer_115 rfl ?_
                first | refine r_isubN dX5_longer_116 (by omega) ?_ | refine r_isub dX5_longer_116 ?_
                refine r_iret dX5_longer_117 rfl (by decide) (by decide) ?_
                first
                | (exfalso; omega)
                | (refine ⟨congrArg (fun x => some (Value.int x)) (congrArg nI ?_), rfl, rfl⟩; simp only [lgr]; cases h1 : shw s m <;> cases h0 : shw s 0 <;> (try simp_all) <;> omega)
              · refine r_iconst (v := nI 0) dX5_longer_109 rfl ?_
                refine r_goto (tgt := 117) dX5_longer_110 (by decide) ?_
                refine r_iret dX5_longer_117 rfl (by decide) (by decide) ?_
                first
                | (exfalso; omega)
                | (refine ⟨congrArg (fun x => some (Value.int x)) (congrArg nI ?_), rfl, rfl⟩; simp only [lgr]; cases h1 : shw s m <;> cases h0 : shw s 0 <;> (try simp_all) <;> omega)
            · refine r_tabOut (tgt := 118) dX5_longer_54 (by decide) (by decide) ?_
              refine r_iload dX5_longer_118 rfl ?_
              refine r_iconst (v := nI 2) dX5_longer_120 rfl ?_
              refine r_idivN dX5_longer_121 (by omega) (by omega) (by omega) ?_
              refine r_iret dX5_longer_122 rfl (by decide) (by decide) ?_
              first
              | (exfalso; omega)
              | (refine ⟨congrArg (fun x => some (Value.int x)) (congrArg nI ?_), rfl, rfl⟩; simp only [lgr]; cases h1 : shw s m <;> cases h0 : shw s 0 <;> (try simp_all) <;> omega)
      · refine r_iconst (v := nI 0) dX5_longer_25 rfl ?_
        refine r_goto (tgt := 51) dX5_longer_26 (by decide) ?_
        refine r_istore dX5_longer_51 rfl (by decide) ?_
        refine r_iload_n dX5_longer_53 rfl rfl ?_
        rcases (show kd = 0 ∨ kd = 1 ∨ kd = 2 ∨ kd = 3 ∨ kd = 4 by omega) with rfl | rfl | rfl | rfl | rfl
        · refine r_tabIn (off := 30) (tgt := 84) dX5_longer_54 (by decide) (by decide) (by decide) (by decide) ?_
          refine r_iload dX5_longer_84 rfl ?_
          refine r_iret dX5_longer_86 rfl (by decide) (by decide) ?_
          first
          | (exfalso; omega)
          | (refine ⟨congrArg (fun x => some (Value.int x)) (congrArg nI ?_), rfl, rfl⟩; simp only [lgr]; cases h1 : shw s m <;> cases h0 : shw s 0 <;> (try simp_all) <;> omega)
        · refine r_tabIn (off := 33) (tgt := 87) dX5_longer_54 (by decide) (by decide) (by decide) (by decide) ?_
          refine r_iload dX5_longer_87 rfl ?_
          first | refine r_if_neB (tgt := 96) dX5_longer_89 (by decide) (fun c12 => ?_) (fun c12 => ?_) | refine r_if_neN (tgt := 96) dX5_longer_89 (by decide) (by omega) (fun c12 => ?_) (fun c12 => ?_) | refine r_if_ne (tgt := 96) dX5_longer_89 (by decide) (fun c12 => ?_) (fun c12 => ?_)
          · refine r_iload dX5_longer_96 rfl ?_
            refine r_iconst (v := nI 1) dX5_longer_98 rfl ?_
            first | refine r_iaddN dX5_longer_99 ?_ | refine r_iadd dX5_longer_99 ?_
            refine r_iret dX5_longer_100 rfl (by decide) (by decide) ?_
            first
            | (exfalso; omega)
            | (refine ⟨congrArg (fun x => some (Value.int x)) (congrArg nI ?_), rfl, rfl⟩; simp only [lgr]; cases h1 : shw s m <;> cases h0 : shw s 0 <;> (try simp_all) <;> omega)
          · refine r_iconst (v := nI 0) dX5_longer_92 rfl ?_
            refine r_goto (tgt := 100) dX5_longer_93 (by decide) ?_
            refine r_iret dX5_longer_100 rfl (by decide) (by decide) ?_
            first
            | (exfalso; omega)
            | (refine ⟨congrArg (fun x => some (Value.int x)) (congrArg nI ?_), rfl, rfl⟩; simp only [lgr]; cases h1 : shw s m <;> cases h0 : shw s 0 <;> (try simp_all) <;> omega)
        · refine r_tabIn (off := 47) (tgt := 101) dX5_longer_54 (by decide) (by decide) (by decide) (by decide) ?_
          refine r_iload dX5_longer_101 rfl ?_
          refine r_iret dX5_longer_103 rfl (by decide) (by decide) ?_
          first
          | (exfalso; omega)
          | (refine ⟨congrArg (fun x => some (Value.int x)) (congrArg nI ?_), rfl, rfl⟩; simp only [lgr]; cases h1 : shw s m <;> cases h0 : shw s 0 <;> (try simp_all) <;> omega)
        · refine r_tabIn (off := 50) (tgt := 104) dX5_longer_54 (by decide) (by decide) (by decide) (by decide) ?_
          refine r_iload dX5_longer_104 rfl ?_
          first | refine r_if_neB (tgt := 113) dX5_longer_106 (by decide) (fun c13 => ?_) (fun c13 => ?_) | refine r_if_neN (tgt := 113) dX5_longer_106 (by decide) (by omega) (fun c13 => ?_) (fun c13 => ?_) | refine r_if_ne (tgt := 113) dX5_longer_106 (by decide) (fun c13 => ?_) (fun c13 => ?_)
          · refine r_iload dX5_longer_113 rfl ?_
            refine r_iconst (v := nI 1) dX5_longer_115 rfl ?_
            first | refine r_isubN dX5_longer_116 (by omega) ?_ | refine r_isub dX5_longer_116 ?_
            refine r_iret dX5_longer_117 rfl (by decide) (by decide) ?_
            first
            | (exfalso; omega)
            | (refine ⟨congrArg (fun x => some (Value.int x)) (congrArg nI ?_), rfl, rfl⟩; simp only [lgr]; cases h1 : shw s m <;> cases h0 : shw s 0 <;> (try simp_all) <;> omega)
          · refine r_iconst (v := nI 0) dX5_longer_109 rfl ?_
            refine r_goto (tgt := 117) dX5_longer_110 (by decide) ?_
            refine r_iret dX5_longer_117 rfl (by decide) (by decide) ?_
            first
            | (exfalso; omega)
            | (refine ⟨congrArg (fun x => some (Value.int x)) (congrArg nI ?_), rfl, rfl⟩; simp only [lgr]; cases h1 : shw s m <;> cases h0 : shw s 0 <;> (try simp_all) <;> omega)
        · refine r_tabOut (tgt := 118) dX5_longer_54 (by decide) (by decide) ?_
          refine r_iload dX5_longer_118 rfl ?_
          refine r_iconst (v := nI 2) dX5_longer_120 rfl ?_
          refine r_idivN dX5_longer_121 (by omega) (by omega) (by omega) ?_
          refine r_iret dX5_longer_122 rfl (by decide) (by decide) ?_
          first
          | (exfalso; omega)
          | (refine ⟨congrArg (fun x => some (Value.int x)) (congrArg nI ?_), rfl, rfl⟩; simp only [lgr]; cases h1 : shw s m <;> cases h0 : shw s 0 <;> (try simp_all) <;> omega)
    · refine r_iload_n dX5_longer_14 rfl rfl ?_
      refine r_goto (tgt := 19) dX5_longer_15 (by decide) ?_
      refine r_istore dX5_longer_19 rfl (by decide) ?_
      refine r_iload_n dX5_longer_21 rfl rfl ?_
      first | refine r_if_neB (tgt := 29) dX5_longer_22 (by decide) (fun c14 => ?_) (fun c14 => ?_) | refine r_if_neN (tgt := 29) dX5_longer_22 (by decide) (by omega) (fun c14 => ?_) (fun c14 => ?_) | refine r_if_ne (tgt := 29) dX5_longer_22 (by decide) (fun c14 => ?_) (fun c14 => ?_)
      · refine r_iload_n dX5_longer_29 rfl rfl ?_
        refine r_iconst (v := nI 1) dX5_longer_30 rfl ?_
        first | refine r_icmp_neN (tgt := 49) dX5_longer_31 (by decide) (by omega) (by omega) (fun c15 => ?_) (fun c15 => ?_) | refine r_icmp_ne (tgt := 49) dX5_longer_31 (by decide) (fun c15 => ?_) (fun c15 => ?_)
        · refine r_iload dX5_longer_49 rfl ?_
          refine r_istore dX5_longer_51 rfl (by decide) ?_
          refine r_iload_n dX5_longer_53 rfl rfl ?_
          rcases (show kd = 0 ∨ kd = 1 ∨ kd = 2 ∨ kd = 3 ∨ kd = 4 by omega) with rfl | rfl | rfl | rfl | rfl
          · refine r_tabIn (off := 30) (tgt := 84) dX5_longer_54 (by decide) (by decide) (by decide) (by decide) ?_
            refine r_iload dX5_longer_84 rfl ?_
            refine r_iret dX5_longer_86 rfl (by decide) (by decide) ?_
            first
            | (exfalso; omega)
            | (refine ⟨congrArg (fun x => some (Value.int x)) (congrArg nI ?_), rfl, rfl⟩; simp only [lgr]; cases h1 : shw s m <;> cases h0 : shw s 0 <;> (try simp_all) <;> omega)
          · refine r_tabIn (off := 33) (tgt := 87) dX5_longer_54 (by decide) (by decide) (by decide) (by decide) ?_
            refine r_iload dX5_longer_87 rfl ?_
            first | refine r_if_neB (tgt := 96) dX5_longer_89 (by decide) (fun c16 => ?_) (fun c16 => ?_) | refine r_if_neN (tgt := 96) dX5_longer_89 (by decide) (by omega) (fun c16 => ?_) (fun c16 => ?_) | refine r_if_ne (tgt := 96) dX5_longer_89 (by decide) (fun c16 => ?_) (fun c16 => ?_)
            · refine r_iload dX5_longer_96 rfl ?_
              refine r_iconst (v := nI 1) dX5_longer_98 rfl ?_
              first | refine r_iaddN dX5_longer_99 ?_ | refine r_iadd dX5_longer_99 ?_
              refine r_iret dX5_longer_100 rfl (by decide) (by decide) ?_
              first
              | (exfalso; omega)
              | (refine ⟨congrArg (fun x => some (Value.int x)) (congrArg nI ?_), rfl, rfl⟩; simp only [lgr]; cases h1 : shw s m <;> cases h0 : shw s 0 <;> (try simp_all) <;> omega)
            · refine r_iconst (v := nI 0) dX5_longer_92 rfl ?_
              refine r_goto (tgt := 100) dX5_longer_93 (by decide) ?_
              refine r_iret dX5_longer_100 rfl (by decide) (by decide) ?_
              first
              | (exfalso; omega)
              | (refine ⟨congrArg (fun x => some (Value.int x)) (congrArg nI ?_), rfl, rfl⟩; simp only [lgr]; cases h1 : shw s m <;> cases h0 : shw s 0 <;> (try simp_all) <;> omega)
          · refine r_tabIn (off := 47) (tgt := 101) dX5_longer_54 (by decide) (by decide) (by decide) (by decide) ?_
            refine r_iload dX5_longer_101 rfl ?_
            refine r_iret dX5_longer_103 rfl (by decide) (by decide) ?_
            first
            | (exfalso; omega)
            | (refine ⟨congrArg (fun x => some (Value.int x)) (congrArg nI ?_), rfl, rfl⟩; simp only [lgr]; cases h1 : shw s m <;> cases h0 : shw s 0 <;> (try simp_all) <;> omega)
          · refine r_tabIn (off := 50) (tgt := 104) dX5_longer_54 (by decide) (by decide) (by decide) (by decide) ?_
            refine r_iload dX5_longer_104 rfl ?_
            first | refine r_if_neB (tgt := 113) dX5_longer_106 (by decide) (fun c17 => ?_) (fun c17 => ?_) | refine r_if_neN (tgt := 113) dX5_longer_106 (by decide) (by omega) (fun c17 => ?_) (fun c17 => ?_) | refine r_if_ne (tgt := 113) dX5_longer_106 (by decide) (fun c17 => ?_) (fun c17 => ?_)
            · refine r_iload dX5_longer_113 rfl ?_
              refine r_iconst (v := nI 1) dX5_longer_115 rfl ?_
              first | refine r_isubN dX5_longer_116 (by omega) ?_ | refine r_isub dX5_longer_116 ?_
              refine r_iret dX5_longer_117 rfl (by decide) (by decide) ?_
              first
              | (exfalso; omega)
              | (refine ⟨congrArg (fun x => some (Value.int x)) (congrArg nI ?_), rfl, rfl⟩; simp only [lgr]; cases h1 : shw s m <;> cases h0 : shw s 0 <;> (try simp_all) <;> omega)
            · refine r_iconst (v := nI 0) dX5_longer_109 rfl ?_
              refine r_goto (tgt := 117) dX5_longer_110 (by decide) ?_
              refine r_iret dX5_longer_117 rfl (by decide) (by decide) ?_
              first
              | (exfalso; omega)
              | (refine ⟨congrArg (fun x => some (Value.int x)) (congrArg nI ?_), rfl, rfl⟩; simp only [lgr]; cases h1 : shw s m <;> cases h0 : shw s 0 <;> (try simp_all) <;> omega)
          · refine r_tabOut (tgt := 118) dX5_longer_54 (by decide) (by decide) ?_
            refine r_iload dX5_longer_118 rfl ?_
            refine r_iconst (v := nI 2) dX5_longer_120 rfl ?_
            refine r_idivN dX5_longer_121 (by omega) (by omega) (by omega) ?_
            refine r_iret dX5_longer_122 rfl (by decide) (by decide) ?_
            first
            | (exfalso; omega)
            | (refine ⟨congrArg (fun x => some (Value.int x)) (congrArg nI ?_), rfl, rfl⟩; simp only [lgr]; cases h1 : shw s m <;> cases h0 : shw s 0 <;> (try simp_all) <;> omega)
        · refine r_iload_n dX5_longer_34 rfl rfl ?_
          refine r_iconst (v := nI 0) dX5_longer_35 rfl ?_
          refine r_cS2F ms_X5_shows ml_X5_51 (c5_shows l (by omega) (by omega)) dX5_longer_36 (Nat.le_of_ble_eq_true rfl) ⟨by decide, by decide⟩ ⟨by decide, by decide⟩ (fun _ h => nomatch h) ?_
          try dsimp only [zrst, List.cons_append, List.nil_append]
          first | refine r_if_eqB (tgt := 49) dX5_longer_39 (by decide) (fun c18 => ?_) (fun c18 => ?_) | refine r_if_eqN (tgt := 49) dX5_longer_39 (by decide) (by omega) (fun c18 => ?_) (fun c18 => ?_) | refine r_if_eq (tgt := 49) dX5_longer_39 (by decide) (fun c18 => ?_) (fun c18 => ?_)
          · refine r_iload dX5_longer_49 rfl ?_
            refine r_istore dX5_longer_51 rfl (by decide) ?_
            refine r_iload_n dX5_longer_53 rfl rfl ?_
            rcases (show kd = 0 ∨ kd = 1 ∨ kd = 2 ∨ kd = 3 ∨ kd = 4 by omega) with rfl | rfl | rfl | rfl | rfl
            · refine r_tabIn (off := 30) (tgt := 84) dX5_longer_54 (by decide) (by decide) (by decide) (by decide) ?_
              refine r_iload dX5_longer_84 rfl ?_
              refine r_iret dX5_longer_86 rfl (by decide) (by decide) ?_
              first
              | (exfalso; omega)
              | (refine ⟨congrArg (fun x => some (Value.int x)) (congrArg nI ?_), rfl, rfl⟩; simp only [lgr]; cases h1 : shw s m <;> cases h0 : shw s 0 <;> (try simp_all) <;> omega)
            · refine r_tabIn (off := 33) (tgt := 87) dX5_longer_54 (by decide) (by decide) (by decide) (by decide) ?_
              refine r_iload dX5_longer_87 rfl ?_
              first | refine r_if_neB (tgt := 96) dX5_longer_89 (by decide) (fun c19 => ?_) (fun c19 => ?_) | refine r_if_neN (tgt := 96) dX5_longer_89 (by decide) (by omega) (fun c19 => ?_) (fun c19 => ?_) | refine r_if_ne (tgt := 96) dX5_longer_89 (by decide) (fun c19 => ?_) (fun c19 => ?_)
              · refine r_iload dX5_longer_96 rfl ?_
                refine r_iconst (v := nI 1) dX5_longer_98 rfl ?_
                first | refine r_iaddN dX5_longer_99 ?_ | refine r_iadd dX5_longer_99 ?_
                refine r_iret dX5_longer_100 rfl (by decide) (by decide) ?_
                first
                | (exfalso; omega)
                | (refine ⟨congrArg (fun x => some (Value.int x)) (congrArg nI ?_), rfl, rfl⟩; simp only [lgr]; cases h1 : shw s m <;> cases h0 : shw s 0 <;> (try simp_all) <;> omega)
              · refine r_iconst (v := nI 0) dX5_longer_92 rfl ?_
                refine r_goto (tgt := 100) dX5_longer_93 (by decide) ?_
                refine r_iret dX5_longer_100 rfl (by decide) (by decide) ?_
                first
                | (exfalso; omega)
                | (refine ⟨congrArg (fun x => some (Value.int x)) (congrArg nI ?_), rfl, rfl⟩; simp only [lgr]; cases h1 : shw s m <;> cases h0 : shw s 0 <;> (try simp_all) <;> omega)
            · refine r_tabIn (off := 47) (tgt := 101) dX5_longer_54 (by decide) (by decide) (by decide) (by decide) ?_
              refine r_iload dX5_longer_101 rfl ?_
              refine r_iret dX5_longer_103 rfl (by decide) (by decide) ?_
              first
              | (exfalso; omega)
              | (refine ⟨congrArg (fun x => some (Value.int x)) (congrArg nI ?_), rfl, rfl⟩; simp only [lgr]; cases h1 : shw s m <;> cases h0 : shw s 0 <;> (try simp_all) <;> omega)
            · refine r_tabIn (off := 50) (tgt := 104) dX5_longer_54 (by decide) (by decide) (by decide) (by decide) ?_
              refine r_iload dX5_longer_104 rfl ?_
              first | refine r_if_neB (tgt := 113) dX5_longer_106 (by decide) (fun c20 => ?_) (fun c20 => ?_) | refine r_if_neN (tgt := 113) dX5_longer_106 (by decide) (by omega) (fun c20 => ?_) (fun c20 => ?_) | refine r_if_ne (tgt := 113) dX5_longer_106 (by decide) (fun c20 => ?_) (fun c20 => ?_)
              · refine r_iload dX5_longer_113 rfl ?_
                refine r_iconst (v := nI 1) dX5_longer_115 rfl ?_
                first | refine r_isubN dX5_longer_116 (by omega) ?_ | refine r_isub dX5_longer_116 ?_
                refine r_iret dX5_longer_117 rfl (by decide) (by decide) ?_
                first
                | (exfalso; omega)
                | (refine ⟨congrArg (fun x => some (Value.int x)) (congrArg nI ?_), rfl, rfl⟩; simp only [lgr]; cases h1 : shw s m <;> cases h0 : shw s 0 <;> (try simp_all) <;> omega)
              · refine r_iconst (v := nI 0) dX5_longer_109 rfl ?_
                refine r_goto (tgt := 117) dX5_longer_110 (by decide) ?_
                refine r_iret dX5_longer_117 rfl (by decide) (by decide) ?_
                first
                | (exfalso; omega)
                | (refine ⟨congrArg (fun x => some (Value.int x)) (congrArg nI ?_), rfl, rfl⟩; simp only [lgr]; cases h1 : shw s m <;> cases h0 : shw s 0 <;> (try simp_all) <;> omega)
            · refine r_tabOut (tgt := 118) dX5_longer_54 (by decide) (by decide) ?_
              refine r_iload dX5_longer_118 rfl ?_
              refine r_iconst (v := nI 2) dX5_longer_120 rfl ?_
              refine r_idivN dX5_longer_121 (by omega) (by omega) (by omega) ?_
              refine r_iret dX5_longer_122 rfl (by decide) (by decide) ?_
              first
              | (exfalso; omega)
              | (refine ⟨congrArg (fun x => some (Value.int x)) (congrArg nI ?_), rfl, rfl⟩; simp only [lgr]; cases h1 : shw s m <;> cases h0 : shw s 0 <;> (try simp_all) <;> omega)
          · refine r_iload dX5_longer_42 rfl ?_
            refine r_iload_n dX5_longer_44 rfl rfl ?_
            first | refine r_iaddN dX5_longer_45 ?_ | refine r_iadd dX5_longer_45 ?_
            refine r_goto (tgt := 51) dX5_longer_46 (by decide) ?_
            refine r_istore dX5_longer_51 rfl (by decide) ?_
            refine r_iload_n dX5_longer_53 rfl rfl ?_
            rcases (show kd = 0 ∨ kd = 1 ∨ kd = 2 ∨ kd = 3 ∨ kd = 4 by omega) with rfl | rfl | rfl | rfl | rfl
            · refine r_tabIn (off := 30) (tgt := 84) dX5_longer_54 (by decide) (by decide) (by decide) (by decide) ?_
              refine r_iload dX5_longer_84 rfl ?_
              refine r_iret dX5_longer_86 rfl (by decide) (by decide) ?_
              first
              | (exfalso; omega)
              | (refine ⟨congrArg (fun x => some (Value.int x)) (congrArg nI ?_), rfl, rfl⟩; simp only [lgr]; cases h1 : shw s m <;> cases h0 : shw s 0 <;> (try simp_all) <;> omega)
            · refine r_tabIn (off := 33) (tgt := 87) dX5_longer_54 (by decide) (by decide) (by decide) (by decide) ?_
              refine r_iload dX5_longer_87 rfl ?_
              first | refine r_if_neB (tgt := 96) dX5_longer_89 (by decide) (fun c21 => ?_) (fun c21 => ?_) | refine r_if_neN (tgt := 96) dX5_longer_89 (by decide) (by omega) (fun c21 => ?_) (fun c21 => ?_) | refine r_if_ne (tgt := 96) dX5_longer_89 (by decide) (fun c21 => ?_) (fun c21 => ?_)
              · refine r_iload dX5_longer_96 rfl ?_
                refine r_iconst (v := nI 1) dX5_longer_98 rfl ?_
                first | refine r_iaddN dX5_longer_99 ?_ | refine r_iadd dX5_longer_99 ?_
                refine r_iret dX5_longer_100 rfl (by decide) (by decide) ?_
                first
                | (exfalso; omega)
                | (refine ⟨congrArg (fun x => some (Value.int x)) (congrArg nI ?_), rfl, rfl⟩; simp only [lgr]; cases h1 : shw s m <;> cases h0 : shw s 0 <;> (try simp_all) <;> omega)
              · refine r_iconst (v := nI 0) dX5_longer_92 rfl ?_
                refine r_goto (tgt := 100) dX5_longer_93 (by decide) ?_
                refine r_iret dX5_longer_100 rfl (by decide) (by decide) ?_
                first
                | (exfalso; omega)
                | (refine ⟨congrArg (fun x => some (Value.int x)) (congrArg nI ?_), rfl, rfl⟩; simp only [lgr]; cases h1 : shw s m <;> cases h0 : shw s 0 <;> (try simp_all) <;> omega)
            · refine r_tabIn (off := 47) (tgt := 101) dX5_longer_54 (by decide) (by decide) (by decide) (by decide) ?_
              refine r_iload dX5_longer_101 rfl ?_
              refine r_iret dX5_longer_103 rfl (by decide) (by decide) ?_
              first
              | (exfalso; omega)
              | (refine ⟨congrArg (fun x => some (Value.int x)) (congrArg nI ?_), rfl, rfl⟩; simp only [lgr]; cases h1 : shw s m <;> cases h0 : shw s 0 <;> (try simp_all) <;> omega)
            · refine r_tabIn (off := 50) (tgt := 104) dX5_longer_54 (by decide) (by decide) (by decide) (by decide) ?_
              refine r_iload dX5_longer_104 rfl ?_
              first | refine r_if_neB (tgt := 113) dX5_longer_106 (by decide) (fun c22 => ?_) (fun c22 => ?_) | refine r_if_neN (tgt := 113) dX5_longer_106 (by decide) (by omega) (fun c22 => ?_) (fun c22 => ?_) | refine r_if_ne (tgt := 113) dX5_longer_106 (by decide) (fun c22 => ?_) (fun c22 => ?_)
              · refine r_iload dX5_longer_113 rfl ?_
                refine r_iconst (v := nI 1) dX5_longer_115 rfl ?_
                first | refine r_isubN dX5_longer_116 (by omega) ?_ | refine r_isub dX5_longer_116 ?_
                refine r_iret dX5_longer_117 rfl (by decide) (by decide) ?_
                first
                | (exfalso; omega)
                | (refine ⟨congrArg (fun x => some (Value.int x)) (congrArg nI ?_), rfl, rfl⟩; simp only [lgr]; cases h1 : shw s m <;> cases h0 : shw s 0 <;> (try simp_all) <;> omega)
              · refine r_iconst (v := nI 0) dX5_longer_109 rfl ?_
                refine r_goto (tgt := 117) dX5_longer_110 (by decide) ?_
                refine r_iret dX5_longer_117 rfl (by decide) (by decide) ?_
                first
                | (exfalso; omega)
                | (refine ⟨congrArg (fun x => some (Value.int x)) (congrArg nI ?_), rfl, rfl⟩; simp only [lgr]; cases h1 : shw s m <;> cases h0 : shw s 0 <;> (try simp_all) <;> omega)
            · refine r_tabOut (tgt := 118) dX5_longer_54 (by decide) (by decide) ?_
              refine r_iload dX5_longer_118 rfl ?_
              refine r_iconst (v := nI 2) dX5_longer_120 rfl ?_
              refine r_idivN dX5_longer_121 (by omega) (by omega) (by omega) ?_
              refine r_iret dX5_longer_122 rfl (by decide) (by decide) ?_
              first
              | (exfalso; omega)
              | (refine ⟨congrArg (fun x => some (Value.int x)) (congrArg nI ?_), rfl, rfl⟩; simp only [lgr]; cases h1 : shw s m <;> cases h0 : shw s 0 <;> (try simp_all) <;> omega)
      · refine r_iconst (v := nI 0) dX5_longer_25 rfl ?_
        refine r_goto (tgt := 51) dX5_longer_26 (by decide) ?_
        refine r_istore dX5_longer_51 rfl (by decide) ?_
        refine r_iload_n dX5_longer_53 rfl rfl ?_
        rcases (show kd = 0 ∨ kd = 1 ∨ kd = 2 ∨ kd = 3 ∨ kd = 4 by omega) with rfl | rfl | rfl | rfl | rfl
        · refine r_tabIn (off := 30) (tgt := 84) dX5_longer_54 (by decide) (by decide) (by decide) (by decide) ?_
          refine r_iload dX5_longer_84 rfl ?_
          refine r_iret dX5_longer_86 rfl (by decide) (by decide) ?_
          first
          | (exfalso; omega)
          | (refine ⟨congrArg (fun x => some (Value.int x)) (congrArg nI ?_), rfl, rfl⟩; simp only [lgr]; cases h1 : shw s m <;> cases h0 : shw s 0 <;> (try simp_all) <;> omega)
        · refine r_tabIn (off := 33) (tgt := 87) dX5_longer_54 (by decide) (by decide) (by decide) (by decide) ?_
          refine r_iload dX5_longer_87 rfl ?_
          first | refine r_if_neB (tgt := 96) dX5_longer_89 (by decide) (fun c23 => ?_) (fun c23 => ?_) | refine r_if_neN (tgt := 96) dX5_longer_89 (by decide) (by omega) (fun c23 => ?_) (fun c23 => ?_) | refine r_if_ne (tgt := 96) dX5_longer_89 (by decide) (fun c23 => ?_) (fun c23 => ?_)
          · refine r_iload dX5_longer_96 rfl ?_
            refine r_iconst (v := nI 1) dX5_longer_98 rfl ?_
            first | refine r_iaddN dX5_longer_99 ?_ | refine r_iadd dX5_longer_99 ?_
            refine r_iret dX5_longer_100 rfl (by decide) (by decide) ?_
            first
            | (exfalso; omega)
            | (refine ⟨congrArg (fun x => some (Value.int x)) (congrArg nI ?_), rfl, rfl⟩; simp only [lgr]; cases h1 : shw s m <;> cases h0 : shw s 0 <;> (try simp_all) <;> omega)
          · refine r_iconst (v := nI 0) dX5_longer_92 rfl ?_
            refine r_goto (tgt := 100) dX5_longer_93 (by decide) ?_
            refine r_iret dX5_longer_100 rfl (by decide) (by decide) ?_
            first
            | (exfalso; omega)
            | (refine ⟨congrArg (fun x => some (Value.int x)) (congrArg nI ?_), rfl, rfl⟩; simp only [lgr]; cases h1 : shw s m <;> cases h0 : shw s 0 <;> (try simp_all) <;> omega)
        · refine r_tabIn (off := 47) (tgt := 101) dX5_longer_54 (by decide) (by decide) (by decide) (by decide) ?_
          refine r_iload dX5_longer_101 rfl ?_
          refine r_iret dX5_longer_103 rfl (by decide) (by decide) ?_
          first
          | (exfalso; omega)
          | (refine ⟨congrArg (fun x => some (Value.int x)) (congrArg nI ?_), rfl, rfl⟩; simp only [lgr]; cases h1 : shw s m <;> cases h0 : shw s 0 <;> (try simp_all) <;> omega)
        · refine r_tabIn (off := 50) (tgt := 104) dX5_longer_54 (by decide) (by decide) (by decide) (by decide) ?_
          refine r_iload dX5_longer_104 rfl ?_
          first | refine r_if_neB (tgt := 113) dX5_longer_106 (by decide) (fun c24 => ?_) (fun c24 => ?_) | refine r_if_neN (tgt := 113) dX5_longer_106 (by decide) (by omega) (fun c24 => ?_) (fun c24 => ?_) | refine r_if_ne (tgt := 113) dX5_longer_106 (by decide) (fun c24 => ?_) (fun c24 => ?_)
          · refine r_iload dX5_longer_113 rfl ?_
            refine r_iconst (v := nI 1) dX5_longer_115 rfl ?_
            first | refine r_isubN dX5_longer_116 (by omega) ?_ | refine r_isub dX5_longer_116 ?_
            refine r_iret dX5_longer_117 rfl (by decide) (by decide) ?_
            first
            | (exfalso; omega)
            | (refine ⟨congrArg (fun x => some (Value.int x)) (congrArg nI ?_), rfl, rfl⟩; simp only [lgr]; cases h1 : shw s m <;> cases h0 : shw s 0 <;> (try simp_all) <;> omega)
          · refine r_iconst (v := nI 0) dX5_longer_109 rfl ?_
            refine r_goto (tgt := 117) dX5_longer_110 (by decide) ?_
            refine r_iret dX5_longer_117 rfl (by decide) (by decide) ?_
            first
            | (exfalso; omega)
            | (refine ⟨congrArg (fun x => some (Value.int x)) (congrArg nI ?_), rfl, rfl⟩; simp only [lgr]; cases h1 : shw s m <;> cases h0 : shw s 0 <;> (try simp_all) <;> omega)
        · refine r_tabOut (tgt := 118) dX5_longer_54 (by decide) (by decide) ?_
          refine r_iload dX5_longer_118 rfl ?_
          refine r_iconst (v := nI 2) dX5_longer_120 rfl ?_
          refine r_idivN dX5_longer_121 (by omega) (by omega) (by omega) ?_
          refine r_iret dX5_longer_122 rfl (by decide) (by decide) ?_
          first
          | (exfalso; omega)
          | (refine ⟨congrArg (fun x => some (Value.int x)) (congrArg nI ?_), rfl, rfl⟩; simp only [lgr]; cases h1 : shw s m <;> cases h0 : shw s 0 <;> (try simp_all) <;> omega)
  · refine r_iconst (v := nI 0) dX5_longer_4 rfl ?_
    refine r_iret dX5_longer_5 rfl (by decide) (by decide) ?_
    first
    | (exfalso; omega)
    | (refine ⟨congrArg (fun x => some (Value.int x)) (congrArg nI ?_), rfl, rfl⟩; simp only [lgr]; cases h1 : shw s m <;> cases h0 : shw s 0 <;> (try simp_all) <;> omega)

set_option maxHeartbeats 4000000 in
set_option maxRecDepth 100000 in
theorem c5_apart (l : Launch) {S : List zC} {M : zM} {a b : Nat} (ha : a < 2 ^ 30) (hb : b < 2 ^ 30) : CT l false 0 0 0 yX5_apart cX5_apart 2 (some .int) [.int (nI a), .int (nI b)] S M (zF (some (.int (nI ((a - b) + (b - a))))) S M) := by
  refine CT.ofN (by decide) (fun _ _ => Nat.le_of_ble_eq_true rfl) ?_
  refine r_iload_n dX5_apart_0 rfl rfl ?_
  refine r_iload_n dX5_apart_1 rfl rfl ?_
  first | refine r_icmp_geN (tgt := 11) dX5_apart_2 (by decide) (by omega) (by omega) (fun c1 => ?_) (fun c1 => ?_) | refine r_icmp_ge (tgt := 11) dX5_apart_2 (by decide) (fun c1 => ?_) (fun c1 => ?_)
  · refine r_iload_n dX5_apart_11 rfl rfl ?_
    refine r_iload_n dX5_apart_12 rfl rfl ?_
    first | refine r_isubN dX5_apart_13 (by omega) ?_ | refine r_isub dX5_apart_13 ?_
    refine r_iret dX5_apart_14 rfl (by decide) (by decide) ?_
    refine ⟨congrArg (fun x => some (Value.int x)) ?_, rfl, rfl⟩
    exact congrArg nI (by omega)
  · refine r_iload_n dX5_apart_5 rfl rfl ?_
    refine r_iload_n dX5_apart_6 rfl rfl ?_
    first | refine r_isubN dX5_apart_7 (by omega) ?_ | refine r_isub dX5_apart_7 ?_
    refine r_goto (tgt := 14) dX5_apart_8 (by decide) ?_
    refine r_iret dX5_apart_14 rfl (by decide) (by decide) ?_
    refine ⟨congrArg (fun x => some (Value.int x)) ?_, rfl, rfl⟩
    exact congrArg nI (by omega)

set_option maxHeartbeats 4000000 in
set_option maxRecDepth 100000 in
theorem c5_isMeasure (l : Launch) {S : List zC} {M : zM} (x : Int32) : CT l false 1 0 0 yX5_isMeasure cX5_isMeasure 1 (some .boolean) [.int x] S M (zF (some (.int (zb (0 ≤ x.toInt ∧ x.toInt < 4)))) S M) := by
  refine CT.ofN (by decide) (fun _ _ => Nat.le_of_ble_eq_true rfl) ?_
  refine r_iload_n dX5_isMeasure_0 rfl rfl ?_
  refine r_i2l dX5_isMeasure_1 rfl ?_
  refine r_lconst (v := 0) dX5_isMeasure_2 rfl ?_
  refine r_ldc2 kc_X5_45 dX5_isMeasure_3 ?_
  refine r_cS3F ms_X5_in ml_X5_41 (c5_in l _ _ _) dX5_isMeasure_6 (Nat.le_of_ble_eq_true rfl) ⟨by decide, by decide⟩ ⟨by decide, by decide⟩ (fun _ h => nomatch h) ?_
  try dsimp only [zrst, List.cons_append, List.nil_append]
  refine r_zret dX5_isMeasure_9 rfl (by first | exact Or.inl rfl | exact Or.inr rfl | exact zb01) (by decide) (by decide) ?_
  refine ⟨congrArg (fun x => some (Value.int x)) (zb_congr ?_), rfl, rfl⟩
  simp only [i64_of32]
  show (0 : Int) ≤ _ ∧ _ ≤ (3 : Int) ↔ _
  omega

set_option maxHeartbeats 4000000 in
set_option maxRecDepth 100000 in
theorem c5_isSheet (l : Launch) {S : List zC} {M : zM} (x : Int32) : CT l false 1 0 0 yX5_isSheet cX5_isSheet 1 (some .boolean) [.int x] S M (zF (some (.int (zb (0 ≤ x.toInt ∧ x.toInt < 4)))) S M) := by
  refine CT.ofN (by decide) (fun _ _ => Nat.le_of_ble_eq_true rfl) ?_
  refine r_iload_n dX5_isSheet_0 rfl rfl ?_
  refine r_i2l dX5_isSheet_1 rfl ?_
  refine r_lconst (v := 0) dX5_isSheet_2 rfl ?_
  refine r_ldc2 kc_X5_45 dX5_isSheet_3 ?_
  refine r_cS3F ms_X5_in ml_X5_41 (c5_in l _ _ _) dX5_isSheet_6 (Nat.le_of_ble_eq_true rfl) ⟨by decide, by decide⟩ ⟨by decide, by decide⟩ (fun _ h => nomatch h) ?_
  try dsimp only [zrst, List.cons_append, List.nil_append]
  refine r_zret dX5_isSheet_9 rfl (by first | exact Or.inl rfl | exact Or.inr rfl | exact zb01) (by decide) (by decide) ?_
  refine ⟨congrArg (fun x => some (Value.int x)) (zb_congr ?_), rfl, rfl⟩
  simp only [i64_of32]
  show (0 : Int) ≤ _ ∧ _ ≤ (3 : Int) ↔ _
  omega

set_option maxHeartbeats 4000000 in
set_option maxRecDepth 100000 in
theorem c5_isLane (l : Launch) {S : List zC} {M : zM} (x : Int32) : CT l false 1 0 0 yX5_isLane cX5_isLane 1 (some .boolean) [.int x] S M (zF (some (.int (zb (0 ≤ x.toInt ∧ x.toInt < 4)))) S M) := by
  refine CT.ofN (by decide) (fun _ _ => Nat.le_of_ble_eq_true rfl) ?_
  refine r_iload_n dX5_isLane_0 rfl rfl ?_
  refine r_i2l dX5_isLane_1 rfl ?_
  refine r_lconst (v := 0) dX5_isLane_2 rfl ?_
  refine r_ldc2 kc_X5_45 dX5_isLane_3 ?_
  refine r_cS3F ms_X5_in ml_X5_41 (c5_in l _ _ _) dX5_isLane_6 (Nat.le_of_ble_eq_true rfl) ⟨by decide, by decide⟩ ⟨by decide, by decide⟩ (fun _ h => nomatch h) ?_
  try dsimp only [zrst, List.cons_append, List.nil_append]
  refine r_zret dX5_isLane_9 rfl (by first | exact Or.inl rfl | exact Or.inr rfl | exact zb01) (by decide) (by decide) ?_
  refine ⟨congrArg (fun x => some (Value.int x)) (zb_congr ?_), rfl, rfl⟩
  simp only [i64_of32]
  show (0 : Int) ≤ _ ∧ _ ≤ (3 : Int) ↔ _
  omega

set_option maxHeartbeats 4000000 in
set_option maxRecDepth 100000 in
theorem c5_measure (l : Launch) {rw : List zC} {M : zM} {t : Nat → Nat → Nat} (hR : RI t M) (hn : NB (t 35)) {p m day md : Nat} (hp : p < t 35 0) (hm : m < 4) (hd1 : t 35 3 ≤ day) (hd2 : day < 20000) (hmd : md < 1024) : CT l false 2 0 0 yX5_measure cX5_measure 7 (some .int) [.ref 34, .int (nI p), .int (nI m), .int (nI day), .int (nI md)] (zSh ++ rw) M (zF (some (.int (nI (mea (t 35) p m day md)))) (zSh ++ rw) M) := by
  refine CT.ofN (by decide) (fun _ _ => Nat.le_of_ble_eq_true rfl) ?_
  have hdd := hn.2.2.2.2.2.2.2.2.2.2.2
  have hkd := hn.2.2.2.2.2.2.2.2.1
  have how := hn.2.2.2.2.2.2.2.2.2.1
  have hcu := hn.2.2.2.2.2.2.2.2.2.2.1
  have hb0 := hn.1
  have hb1 := hn.2.1
  have hb2 := hn.2.2.1
  have hb3 := hn.2.2.2.1
  have hb4 := hn.2.2.2.2.1
  have hb5 := hn.2.2.2.2.2.1
  have hb6 := hn.2.2.2.2.2.2.1
  refine r_aload_n dX5_measure_0 rfl rfl ?_
  refine r_iload_n dX5_measure_1 rfl rfl ?_
  refine r_iload_n dX5_measure_2 rfl rfl ?_
  refine r_cV2F mv_X5_ownOf ml_X5_55 (c5_ownOf l hR (by omega) (by omega)) dX5_measure_3 (Nat.le_of_ble_eq_true rfl) ⟨by decide, by decide⟩ ⟨by decide, by decide⟩ sh_34 rfl (fun _ h => nomatch h) ?_
  try dsimp only [zrst, List.cons_append, List.nil_append]
  refine r_istore dX5_measure_6 rfl (by decide) ?_
  refine r_iconst (v := nI 0) dX5_measure_8 rfl ?_
  refine r_istore dX5_measure_9 rfl (by decide) ?_
  have loop : ∀ (j k : Nat) , k ≤ t 35 2 → t 35 2 < k + j → RA l none (zR 2 0 0) yX5_measure cX5_measure 7 (some .int) (zF (some (.int (nI (mea (t 35) p m day md)))) (zSh ++ rw) M) 0 0 11 [some (.ref 34), some (.int (nI p)), some (.int (nI m)), some (.int (nI day)), some (.int (nI md)), some (.int (nI (t 35 (8 + 5 * p + 1 + m) + sm (lon (t 35) p m day md) k))), some (.int (nI k))] [] (zSh ++ rw) M := by
    intro j
    induction j with
    | zero => intro k   hk hj; exact absurd hj (by omega)
    | succ j ih =>
      intro k   hk hj
      refine r_iload dX5_measure_11 rfl ?_
      refine r_aload_n dX5_measure_13 rfl rfl ?_
      refine r_getR fl_X5_7 dX5_measure_14 sh_34 rfl ?_
      refine r_iconst (v := nI 2) dX5_measure_17 rfl ?_
      refine r_ialdN dX5_measure_18 sh_35 (by omega) (by decide) (hR.a35 _) ?_
      first | refine r_icmp_geN (tgt := 73) dX5_measure_19 (by decide) (by omega) (by omega) (fun c1 => ?_) (fun c1 => ?_) | refine r_icmp_ge (tgt := 73) dX5_measure_19 (by decide) (fun c1 => ?_) (fun c1 => ?_)
      · refine r_iload dX5_measure_73 rfl ?_
        refine r_iret dX5_measure_75 rfl (by decide) (by decide) ?_
        refine ⟨congrArg (fun x => some (Value.int x)) ?_, rfl, rfl⟩
        rw [show k = t 35 2 by omega]
        rfl
      · have hd := hdd k c1
        have hle := lng_le hn p m day md k (by omega)
        have hown := how p m hp hm
        refine r_iload dX5_measure_22 rfl ?_
        refine r_aload_n dX5_measure_24 rfl rfl ?_
        refine r_iload dX5_measure_25 rfl ?_
        refine r_iconst (v := nI 0) dX5_measure_27 rfl ?_
        refine r_cV2F mv_X5_told ml_X5_47 (c5_told l hR (by omega) (by omega)) dX5_measure_28 (Nat.le_of_ble_eq_true rfl) ⟨by decide, by decide⟩ ⟨by decide, by decide⟩ sh_34 rfl (fun _ h => nomatch h) ?_
        try dsimp only [zrst, List.cons_append, List.nil_append]
        simp only [Nat.add_zero]
        refine r_iload_n dX5_measure_31 rfl rfl ?_
        first | refine r_icmp_neN (tgt := 63) dX5_measure_32 (by decide) (by omega) (by omega) (fun c2 => ?_) (fun c2 => ?_) | refine r_icmp_ne (tgt := 63) dX5_measure_32 (by decide) (fun c2 => ?_) (fun c2 => ?_)
        · have hX : lon (t 35) p m day md k = 0 := if_neg c2
          refine r_iconst (v := nI 0) dX5_measure_63 rfl ?_
          first | refine r_iaddN dX5_measure_64 ?_ | refine r_iadd dX5_measure_64 ?_
          refine r_istore dX5_measure_65 rfl (by decide) ?_
          first | refine r_iincN dX5_measure_67 rfl rfl (by decide) ?_ | refine r_iinc dX5_measure_67 rfl rfl rfl (by decide) ?_
          refine r_goto (tgt := 11) dX5_measure_70 (by decide) ?_
          have h9 := ih (k + 1) (by omega) (by omega)
          rw [sm, hX, ← Nat.add_assoc] at h9
          exact h9
        · have hX : lon (t 35) p m day md k = lgr (t 35 (8 + 5 * p)) (t 35 (49 + 4 * k + 1)) m (lft (t 35) k day md) := if_pos c2
          refine r_aload_n dX5_measure_35 rfl rfl ?_
          refine r_iload_n dX5_measure_36 rfl rfl ?_
          refine r_cV1F mv_X5_kind ml_X5_58 (c5_kind l hR (by omega)) dX5_measure_37 (Nat.le_of_ble_eq_true rfl) ⟨by decide, by decide⟩ ⟨by decide, by decide⟩ sh_34 rfl (fun _ h => nomatch h) ?_
          try dsimp only [zrst, List.cons_append, List.nil_append]
          refine r_aload_n dX5_measure_40 rfl rfl ?_
          refine r_iload dX5_measure_41 rfl ?_
          refine r_iconst (v := nI 1) dX5_measure_43 rfl ?_
          refine r_cV2F mv_X5_told ml_X5_47 (c5_told l hR (by omega) (by omega)) dX5_measure_44 (Nat.le_of_ble_eq_true rfl) ⟨by decide, by decide⟩ ⟨by decide, by decide⟩ sh_34 rfl (fun _ h => nomatch h) ?_
          try dsimp only [zrst, List.cons_append, List.nil_append]
          refine r_iload_n dX5_measure_47 rfl rfl ?_
          refine r_aload_n dX5_measure_48 rfl rfl ?_
          refine r_iload dX5_measure_49 rfl ?_
          refine r_iload_n dX5_measure_51 rfl rfl ?_
          refine r_iload dX5_measure_52 rfl ?_
          refine r_cV3F mv_X5_left ml_X5_62 (c5_left l hR (by omega) (by omega) (by omega) (by omega) hb4 (by omega)) dX5_measure_54 (Nat.le_of_ble_eq_true rfl) ⟨by decide, by decide⟩ ⟨by decide, by decide⟩ sh_34 rfl (fun _ h => nomatch h) ?_
          try dsimp only [zrst, List.cons_append, List.nil_append]
          refine r_cS4F ms_X5_longer ml_X5_66 (c5_longer l (hkd p hp) (by omega) (by omega) (lft_le (by omega))) dX5_measure_57 (Nat.le_of_ble_eq_true rfl) ⟨by decide, by decide⟩ ⟨by decide, by decide⟩ (fun _ h => nomatch h) ?_
          try dsimp only [zrst, List.cons_append, List.nil_append]
          refine r_goto (tgt := 64) dX5_measure_60 (by decide) ?_
          first | refine r_iaddN dX5_measure_64 ?_ | refine r_iadd dX5_measure_64 ?_
          refine r_istore dX5_measure_65 rfl (by decide) ?_
          first | refine r_iincN dX5_measure_67 rfl rfl (by decide) ?_ | refine r_iinc dX5_measure_67 rfl rfl rfl (by decide) ?_
          refine r_goto (tgt := 11) dX5_measure_70 (by decide) ?_
          have h9 := ih (k + 1) (by omega) (by omega)
          rw [sm, hX, ← Nat.add_assoc] at h9
          exact h9
  exact loop (t 35 2 + 1) 0 (Nat.zero_le _) (by omega)

set_option maxHeartbeats 4000000 in
set_option maxRecDepth 100000 in
theorem c5_today (l : Launch) {rw : List zC} {M : zM} {t : Nat → Nat → Nat} (hR : RI t M) (hn : NB (t 35)) {p m : Nat} (hp : p < t 35 0) (hm : m < 4) : CT l false 3 0 0 yX5_today cX5_today 3 (some .int) [.ref 34, .int (nI p), .int (nI m)] (zSh ++ rw) M (zF (some (.int (nI (mea (t 35) p m (t 35 3) (t 35 6))))) (zSh ++ rw) M) := by
  refine CT.ofN (by decide) (fun _ _ => Nat.le_of_ble_eq_true rfl) ?_
  have hdd := hn.2.2.2.2.2.2.2.2.2.2.2
  have hkd := hn.2.2.2.2.2.2.2.2.1
  have how := hn.2.2.2.2.2.2.2.2.2.1
  have hcu := hn.2.2.2.2.2.2.2.2.2.2.1
  have hb0 := hn.1
  have hb1 := hn.2.1
  have hb2 := hn.2.2.1
  have hb3 := hn.2.2.2.1
  have hb4 := hn.2.2.2.2.1
  have hb5 := hn.2.2.2.2.2.1
  have hb6 := hn.2.2.2.2.2.2.1
  refine r_aload_n dX5_today_0 rfl rfl ?_
  refine r_iload_n dX5_today_1 rfl rfl ?_
  refine r_iload_n dX5_today_2 rfl rfl ?_
  refine r_aload_n dX5_today_3 rfl rfl ?_
  refine r_getR fl_X5_7 dX5_today_4 sh_34 rfl ?_
  refine r_iconst (v := nI 3) dX5_today_7 rfl ?_
  refine r_ialdN dX5_today_8 sh_35 (by omega) (by decide) (hR.a35 _) ?_
  refine r_aload_n dX5_today_9 rfl rfl ?_
  refine r_getR fl_X5_7 dX5_today_10 sh_34 rfl ?_
  refine r_bipush (v := nI 6) dX5_today_13 rfl ?_
  refine r_ialdN dX5_today_15 sh_35 (by omega) (by decide) (hR.a35 _) ?_
  refine r_cV4F mv_X5_measure ml_X5_70 (c5_measure l hR hn hp hm (Nat.le_refl _) (by omega) (by omega)) dX5_today_16 (Nat.le_of_ble_eq_true rfl) ⟨by decide, by decide⟩ ⟨by decide, by decide⟩ sh_34 rfl (fun _ h => nomatch h) ?_
  try dsimp only [zrst, List.cons_append, List.nil_append]
  refine r_iret dX5_today_19 rfl (by decide) (by decide) ?_
  exact ⟨rfl, rfl, rfl⟩

