theorem zpT667 : zcheck zpZ zpRS zpMT [zpC569, zpC666] zpC667 zpP12 1 zpA667 [] 3000 = true := by decide +kernel
theorem zpT668 : zcheck zpZ zpRS zpMT [zpC638, zpC639, zpC667] zpC668 zpP12 1 zpA668 [] 3000 = true := by decide +kernel
theorem zpT669 : zcheck zpZ zpRS zpMT [zpC641, zpC642, zpC668] zpC669 zpP12 1 zpA669 [] 3000 = true := by decide +kernel
theorem zpT670e : zrun zpZ zpRS zpP12 zpMT [zpC567, zpC569, zpC570, zpC633, zpC644, zpC645, zpC664, zpC669] (zpC670.2.2.1.2.1.length, zpC670.2.2.2.1, zpC670.2.2.2.2, zpC670.2.1, 1) (zpMT zpC670.1).2.1 zpA670 [] none 3000 0 zpC670.2.2.1.2 = true := by decide +kernel
theorem zpT670h0 : zhead zpZ zpRS zpMT [zpC567, zpC569, zpC570, zpC633, zpC644, zpC645, zpC664, zpC669] zpC670 zpP12 1 zpA670 [] 3000 zpA670h0 = true := by decide +kernel
theorem zpT670 : zcheck zpZ zpRS zpMT [zpC567, zpC569, zpC570, zpC633, zpC644, zpC645, zpC664, zpC669] zpC670 zpP12 1 zpA670 [] 3000 = true := zcheck_of zpT670e (zall_cons zpT670h0 (zall_nil)) (by decide +kernel)
theorem zpT671 : zcheck zpZ zpRS zpMT [zpC569, zpC670] zpC671 zpP12 1 zpA671 [] 3000 = true := by decide +kernel
theorem zpT672 : zcheck zpZ zpRS zpMT [zpC569, zpC671] zpC672 zpP12 1 zpA672 [] 3000 = true := by decide +kernel
theorem zpT673 : zcheck zpZ zpRS zpMT [zpC569, zpC672] zpC673 zpP12 1 zpA673 [] 3000 = true := by decide +kernel
theorem zpT674 : zcheck zpZ zpRS zpMT [zpC638, zpC639, zpC673] zpC674 zpP12 1 zpA674 [] 3000 = true := by decide +kernel
theorem zpT675 : zcheck zpZ zpRS zpMT [zpC641, zpC642, zpC674] zpC675 zpP12 1 zpA675 [] 3000 = true := by decide +kernel
theorem zpT676e : zrun zpZ zpRS zpP12 zpMT [zpC567, zpC569, zpC570, zpC633, zpC644, zpC645, zpC670, zpC675] (zpC676.2.2.1.2.1.length, zpC676.2.2.2.1, zpC676.2.2.2.2, zpC676.2.1, 1) (zpMT zpC676.1).2.1 zpA676 [] none 3000 0 zpC676.2.2.1.2 = true := by decide +kernel
theorem zpT676h0 : zhead zpZ zpRS zpMT [zpC567, zpC569, zpC570, zpC633, zpC644, zpC645, zpC670, zpC675] zpC676 zpP12 1 zpA676 [] 3000 zpA676h0 = true := by decide +kernel
theorem zpT676 : zcheck zpZ zpRS zpMT [zpC567, zpC569, zpC570, zpC633, zpC644, zpC645, zpC670, zpC675] zpC676 zpP12 1 zpA676 [] 3000 = true := zcheck_of zpT676e (zall_cons zpT676h0 (zall_nil)) (by decide +kernel)
theorem zpT677 : zcheck zpZ zpRS zpMT [zpC569, zpC676] zpC677 zpP12 1 zpA677 [] 3000 = true := by decide +kernel
theorem zpT678 : zcheck zpZ zpRS zpMT [zpC569, zpC677] zpC678 zpP12 1 zpA678 [] 3000 = true := by decide +kernel
theorem zpT679 : zcheck zpZ zpRS zpMT [zpC569, zpC678] zpC679 zpP12 1 zpA679 [] 3000 = true := by decide +kernel
theorem zpT680 : zcheck zpZ zpRS zpMT [zpC638, zpC639, zpC679] zpC680 zpP12 1 zpA680 [] 3000 = true := by decide +kernel
theorem zpT681 : zcheck zpZ zpRS zpMT [zpC641, zpC642, zpC680] zpC681 zpP12 1 zpA681 [] 3000 = true := by decide +kernel
theorem zpT682 : zcheck zpZ zpRS zpMT [zpC569] zpC682 zpP12 2 zpA682 [] 3000 = true := by decide +kernel
theorem zpT683 : zcheck zpZ zpRS zpMT [] zpC683 zpP12 2 zpA683 [] 3000 = true := by decide +kernel
theorem zpT684 : zcheck zpZ zpRS zpMT [zpC569] zpC684 zpP12 2 zpA684 [] 3000 = true := by decide +kernel
theorem zpT685 : zcheck zpZ zpRS zpMT [] zpC685 zpP12 2 zpA685 [] 3000 = true := by decide +kernel
theorem zpT686 : zcheck zpZ zpRS zpMT [zpC570, zpC681, zpC682, zpC683, zpC684, zpC685] zpC686 zpP12 1 zpA686 [] 3000 = true := by decide +kernel
theorem zpT687 : zcheck zpZ zpRS zpMT [zpC686] zpC687 zpP12 1 zpA687 [] 3000 = true := by decide +kernel
theorem zpT688 : zcheck zpZ zpRS zpMT [zpC686] zpC688 zpP12 1 zpA688 [] 3000 = true := by decide +kernel
theorem zpT689 : zcheck zpZ zpRS zpMT [zpC688] zpC689 zpP12 1 zpA689 [] 3000 = true := by decide +kernel
theorem zpT690e : zrun zpZ zpRS zpP12 zpMT [zpC689] (zpC690.2.2.1.2.1.length, zpC690.2.2.2.1, zpC690.2.2.2.2, zpC690.2.1, 1) (zpMT zpC690.1).2.1 zpA690 [] none 3000 0 zpC690.2.2.1.2 = true := by decide +kernel
theorem zpT690h0 : zhead zpZ zpRS zpMT [zpC689] zpC690 zpP12 1 zpA690 [] 3000 zpA690h0 = true := by decide +kernel
theorem zpT690 : zcheck zpZ zpRS zpMT [zpC689] zpC690 zpP12 1 zpA690 [] 3000 = true := zcheck_of zpT690e (zall_cons zpT690h0 (zall_nil)) (by decide +kernel)
theorem zpT691 : zcheck zpZ zpRS zpMT [zpC519, zpC553, zpC555, zpC611, zpC613, zpC690] zpC691 zpP12 1 zpA691 [] 3000 = true := by decide +kernel
theorem zpT692 : zcheck zpZ zpRS zpMT [zpC690] zpC692 zpP12 2 zpA692 [] 3000 = true := by decide +kernel
theorem zpT693 : zcheck zpZ zpRS zpMT [zpC519, zpC611, zpC613, zpC692] zpC693 zpP12 1 zpA693 [] 3000 = true := by decide +kernel
