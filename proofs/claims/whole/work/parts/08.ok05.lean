set_option maxRecDepth 100000 in
theorem oX11_did : dm_okM RX11 rX11_did.2.1 false qX11_did = true := by decide +kernel
set_option maxRecDepth 100000 in
theorem oX11_next : dm_okM RX11 rX11_next.2.1 false qX11_next = true := by decide +kernel
set_option maxRecDepth 100000 in
theorem oX11_years : dm_okM RX11 rX11_years.2.1 false qX11_years = true := by decide +kernel
set_option maxRecDepth 100000 in
theorem oX11_mark : dm_okM RX11 rX11_mark.2.1 false qX11_mark = true := by decide +kernel
set_option maxRecDepth 100000 in
theorem oX11_count : dm_okM RX11 rX11_count.2.1 false qX11_count = true := by decide +kernel
set_option maxRecDepth 100000 in
theorem oX11_remember : dm_okM RX11 rX11_remember.2.1 false qX11_remember = true := by decide +kernel
set_option maxRecDepth 100000 in
theorem oX11_areTwoIn : dm_okM RX11 rX11_areTwoIn.2.1 false qX11_areTwoIn = true := by decide +kernel
set_option maxRecDepth 100000 in
theorem oX11_isWithin : dm_okM RX11 rX11_isWithin.2.1 false qX11_isWithin = true := by decide +kernel
set_option maxRecDepth 100000 in
theorem oX11_choices : dm_okM RX11 rX11_choices.2.1 false qX11_choices = true := by decide +kernel
set_option maxRecDepth 100000 in
theorem oX12_thrown : dm_okM RX12 rX12_thrown.2.1 false qX12_thrown = true := by decide +kernel
set_option maxRecDepth 100000 in
theorem oX12_feed : dm_okM RX12 rX12_feed.2.1 false qX12_feed = true := by decide +kernel
set_option maxRecDepth 100000 in
theorem oX12_lay : dm_okM RX12 rX12_lay.2.1 false qX12_lay = true := by decide +kernel
set_option maxRecDepth 100000 in
theorem oX12_init : dm_okM RX12 rX12_init.2.1 true qX12_init = true := by decide +kernel
set_option maxRecDepth 100000 in
theorem oX12_isLetter : dm_okM RX12 rX12_isLetter.2.1 false qX12_isLetter = true := by decide +kernel
set_option maxRecDepth 100000 in
theorem oX12_isDigit : dm_okM RX12 rX12_isDigit.2.1 false qX12_isDigit = true := by decide +kernel
set_option maxRecDepth 100000 in
theorem oX12_rank : dm_okM RX12 rX12_rank.2.1 false qX12_rank = true := by decide +kernel
set_option maxRecDepth 100000 in
theorem oX12_isSignOf : dm_okM RX12 rX12_isSignOf.2.1 false qX12_isSignOf = true := by decide +kernel
set_option maxRecDepth 100000 in
theorem oX12_cutAll : dm_okM RX12 rX12_cutAll.2.1 false qX12_cutAll = true := by decide +kernel
set_option maxRecDepth 100000 in
theorem oX12_wrong : dm_okM RX12 rX12_wrong.2.1 false qX12_wrong = true := by decide +kernel
