theorem gs_lcmp {K : gC} {Ms : Nat → gM} {M : gM} {pc p' : Nat} (hd : decode M.2.1 pc = .ok (.lcmp, 1)) (hp : pc + 1 = p') : gOk K Ms M pc (ga_lcmp p') := gs_of fun L S Z I J => by
  unfold ga_lcmp
  split
  · exact Or.inl ⟨_, _, rfl, fun p l e R s m args below meth c H locs ls cells slots Q hX hH hS hL k => by subst hp; exact W.lcmp hX.1 hX.2.1 hd k⟩
  · exact Or.inr rfl
